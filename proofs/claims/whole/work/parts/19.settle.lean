theorem zCs_N (z : bSt) (i : Nat) (pk : Nat → Nat) : bN (zCs z i pk) = bN z := rfl
theorem zCs_V (z : bSt) (i : Nat) (pk : Nat → Nat) : bV (zCs z i pk) = bV z := rfl
theorem zCs_U (z : bSt) (i : Nat) (pk : Nat → Nat) : bU (zCs z i pk) = bU z := rfl
theorem zCs_K (z : bSt) (i : Nat) (pk : Nat → Nat) : bK (zCs z i pk) = bK z := rfl
theorem zCs_P (z : bSt) (i : Nat) (pk : Nat → Nat) : bP (zCs z i pk) = bP z := rfl
theorem zCs_L (z : bSt) (i : Nat) (pk : Nat → Nat) : bL (zCs z i pk) = bL z := rfl
theorem zCs_M (z : bSt) (i : Nat) (pk : Nat → Nat) : bM (zCs z i pk) = bM z := rfl
theorem zCs_O (z : bSt) (i : Nat) (pk : Nat → Nat) : bO (zCs z i pk) = bO z := rfl
theorem zCs_S (z : bSt) (i : Nat) (pk : Nat → Nat) : bS (zCs z i pk) = bS z := rfl
theorem zCs_D (z : bSt) (i : Nat) (pk : Nat → Nat) : bD (zCs z i pk) = bD z := rfl
theorem zCs_Z (z : bSt) (i : Nat) (pk : Nat → Nat) : bZ (zCs z i pk) = bZ z := rfl
set_option maxHeartbeats 4000000 in
set_option maxRecDepth 100000 in
theorem c_settle1 (l : Launch) (D : va_G) (g : Nat → ClassId) (ad : Nat → Nat) (z : bSt) (rl : Nat → Nat → Bool) (ff : Nat → Nat → Int) (hz : bOK z) (hj : bInj ad) (mg : Int) (hmg : 0 ≤ mg ∧ mg ≤ 10000) (hA : ∀ i, i < bN z → bU z i = none → cF0 (bN z) (bU z) (bO z) (okf z mg) i ≠ -1) (pk : Nat → Nat) (hp0 : ∀ i, i < bN z → bU z i = none → cF0 (bN z) (bU z) (bO z) (okf z mg) i = (pk i : Int)) (hpk : ∀ i u, i < bN z → bU z i = some u → cFk (bN z) (bU z) (bO z) (okf z mg) i (pk u) = (pk i : Int)) (hpo : ∀ i, i < bN z → pk i < bO z i) : Met l yX3_settle wsX3_settle ({ frames := 6, cells := 0, slots := 0, locals := 159 }) (pu_Pc [.ref (ad 0), .int (jI (mg))] D vwCl (ty9 g) (fun H => bW D g ad z rl ff H)) (bQ D g ad (some (.int (jI (bI true)))) (zCs z (bN z) pk) (fun _ _ => True)) 0 0 (bFr ad) := by
  refine Met.ofW (cc := cX3_settle) (maxL := 4) (ret := some .boolean) (by decide) rfl ?_
  intro p e s m args below meth c s₁ B hml hv
  obtain ⟨rfl, hPic, hK⟩ := hv
  have hx := B.exec
  have hb := B.bytes
  have hr := B.returns
  have hts := atoms_spec (ws := wsX3_settle) B.pre
  have hown : s.vm.findClass RX3 = some m.cls := findClass_of_methodNamed B.named
  have hlocks := B.notSynchronized
  have hx0 : va_at D vwCl (ad 0, .inr (3, [.ref (ad 1), .int (jI ((bN z : Int))), .int (jI (bV z))])) s.heap := hPic 0 (by omega)
  have hx1 : va_at D vwCl (ad 1, .inl (g 2, 8, .inr (.inr (.inr (.inr (fun j => some (ad (2 + 12 * j)))))))) s.heap := hPic 1 (by omega)
  have hN := hz.1
  have hl := lv_entry ([.ref (ad 0), .int (jI (mg))]) (n := 4) (Nat.le_of_ble_eq_true rfl)
  rw [lg_entry_eq]
  generalize (lg_sl ([.ref (ad 0), .int (jI (mg))]) ++ List.replicate (4 - (lg_sl ([.ref (ad 0), .int (jI (mg))])).length) Slot.unset).toArray = ls at hl ⊢
  have hl : lv_has ls 4 [(0, .ref (ad 0)), (1, .int (jI (mg)))] := hl
  have hT0 : bTo ad s.heap s.heap [] := bTo.rf
  refine lv_iload_n hx hb dX3_settle_0 rfl (lv_at hl 1 rfl) ?_
  refine jv_iconst hx hb dX3_settle_1 ?_
  refine jv_sipush hx hb dX3_settle_2 (by decide) ?_
  refine pu_call (va_runS (As := [.int (jI (mg)), .int (jI (0)), .int (jI (10000))]) (rest := []) ⟨hx, hb, hml, hown, hts⟩ (c_demandWithin l D g mg 0 10000 (by omega) (by omega) (by omega) (by omega)) (cwS 3 hts (gd_S kw_234 kw_235 kw_12 kcX3_demandWithin) rfl rfl rfl (by decide +kernel) ⟨Nat.le_of_ble_eq_true rfl, Nat.le_of_ble_eq_true rfl⟩) (pu_preS trivial hK) rfl rfl hl.1 rfl (lv_room (Nat.le_of_ble_eq_true rfl)) dX3_settle_5 ⟨Nat.zero_le _, Nat.zero_le _⟩) ?_
  refine jv_iconst hx hb dX3_settle_8 ?_
  refine lv_istore_n (lv' := [(2, .int (jI (0))), (0, .ref (ad 0)), (1, .int (jI (mg)))]) hx hb dX3_settle_9 rfl hl (by decide) rfl (fun ls hl => ?_)
  refine jw_loop3 (X := Nat × (Nat → Nat → Bool) × (Nat → Nat → Int)) (fun x => bN z - x.1) (fun x H L ls => (x.1 ≤ bN z ∧ (∀ q, q < x.1 → ∀ k, k < 4 → x.2.1 q k = false) ∧ bW D g ad z x.2.1 x.2.2 H ∧ bTo ad s.heap H L) ∧ lv_has ls 4 [(0, .ref (ad 0)), (1, .int (jI (mg))), (2, .int (jI ((x.1 : Int))))]) ?_ (0, rl, ff) s.heap [] ls ⟨⟨Nat.zero_le _, fun q hq => absurd hq (Nat.not_lt_zero q), hPic, hT0⟩, lv_sub hl [1, 2, 0] rfl⟩
  intro x H L ls hinv ih
  obtain ⟨i, r1, f1⟩ := x
  obtain ⟨⟨hi9, hrk, hPic, hT0⟩, hl⟩ := hinv
  dsimp only at hi9 hrk hPic
  have hl : lv_has ls 4 [(0, .ref (ad 0)), (1, .int (jI (mg))), (2, .int (jI ((i : Int))))] := hl
  have hx0 : va_at D vwCl (ad 0, .inr (3, [.ref (ad 1), .int (jI ((bN z : Int))), .int (jI (bV z))])) H := hPic 0 (by omega)
  have hx1 : va_at D vwCl (ad 1, .inl (g 2, 8, .inr (.inr (.inr (.inr (fun j => some (ad (2 + 12 * j)))))))) H := hPic 1 (by omega)
  refine lv_iload_n hx hb dX3_settle_10 rfl (lv_at hl 2 rfl) ?_
  refine lv_aload_n hx hb dX3_settle_11 rfl (lv_at hl 0 rfl) ?_
  refine va_get (D := D) (ci := 3) (v := .int (jI ((bN z : Int)))) (C := RX3) (T := TX3) (N := 3) hx hb hts (fun w h => List.mem_cons_of_mem _ (uw_X3 w h)) hown hK (j_P1 hx0) 0 rfl rfl 1 (by decide) (hts _ (List.mem_cons_of_mem _ kw_122)) (fun _ h9 => h9) rfl dX3_settle_12 ?_
  refine jv_icmp_ge (tgt := 33) hx hb dX3_settle_15 (by decide) (by omega) (by omega) (fun c15 => ?_) (fun c15 => ?_)
  · refine lv_aload_n hx hb dX3_settle_33 rfl (lv_at hl 0 rfl) ?_
    refine va_get (D := D) (ci := 3) (v := .int (jI ((bN z : Int)))) (C := RX3) (T := TX3) (N := 3) hx hb hts (fun w h => List.mem_cons_of_mem _ (uw_X3 w h)) hown hK (j_P1 hx0) 0 rfl rfl 1 (by decide) (hts _ (List.mem_cons_of_mem _ kw_122)) (fun _ h9 => h9) rfl dX3_settle_34 ?_
    refine jv_iconst hx hb dX3_settle_37 ?_
    refine jv_isub hx hb dX3_settle_38 ?_
    refine lv_istore_n (lv' := [(2, .int (jI ((bN z : Int) - 1))), (0, .ref (ad 0)), (1, .int (jI (mg)))]) hx hb dX3_settle_39 rfl hl (by decide) rfl (fun ls hl => ?_)
    refine jw_loop3 (X := Nat × (Nat → Nat → Bool) × (Nat → Nat → Int)) (fun x => bN z - x.1) (fun x H L ls => (x.1 ≤ bN z ∧ (∀ i, i < bN z → ∀ k, k < 4 → x.2.1 i k = cRul (bN z) (bU z) (bO z) (okf z mg) x.1 i k) ∧ (∀ i, bN z - x.1 ≤ i → i < bN z → cHeld z mg x.2.2 i) ∧ (∀ i, bN z - x.1 ≤ i → i < bN z → bU z i = none → cF0 (bN z) (bU z) (bO z) (okf z mg) i ≠ -1) ∧ bW D g ad z x.2.1 x.2.2 H ∧ bTo ad s.heap H L) ∧ lv_has ls 4 [(0, .ref (ad 0)), (1, .int (jI (mg))), (2, .int (jI ((bN z : Int) - 1 - (x.1 : Int))))]) ?_ (0, r1, f1) H L ls ⟨⟨Nat.zero_le _, fun q hq k hk => hrk q (by omega) k hk, fun q h1 h2 => by dsimp only at h1; omega, fun q h1 h2 => by dsimp only at h1; omega, hPic, hT0⟩, by dsimp only; rw [show (bN z : Int) - 1 - ((0 : Nat) : Int) = (bN z : Int) - 1 by omega]; exact lv_sub hl [1, 2, 0] rfl⟩
    clear ih hrk hi9 hPic hT0 hl
    intro x H L ls hinv ih
    obtain ⟨m9, r1, f1⟩ := x
    obtain ⟨⟨hm, hr9, hh, hnr, hPic, hT0⟩, hl⟩ := hinv
    dsimp only at hm hr9 hh hnr hPic
    have hl : lv_has ls 4 [(0, .ref (ad 0)), (1, .int (jI (mg))), (2, .int (jI ((bN z : Int) - 1 - (m9 : Int))))] := hl
    have hx0 : va_at D vwCl (ad 0, .inr (3, [.ref (ad 1), .int (jI ((bN z : Int))), .int (jI (bV z))])) H := hPic 0 (by omega)
    have hx1 : va_at D vwCl (ad 1, .inl (g 2, 8, .inr (.inr (.inr (.inr (fun j => some (ad (2 + 12 * j)))))))) H := hPic 1 (by omega)
    refine lv_iload_n hx hb dX3_settle_40 rfl (lv_at hl 2 rfl) ?_
    refine jv_if_lt (tgt := 65) hx hb dX3_settle_41 (by decide) (by omega) (fun c41 => ?_) (fun c41 => ?_)
    · refine jv_iconst hx hb dX3_settle_65 ?_
      refine lv_istore_n (lv' := [(2, .int (jI (0))), (0, .ref (ad 0)), (1, .int (jI (mg)))]) hx hb dX3_settle_66 rfl hl (by decide) rfl (fun ls hl => ?_)
      have hheld : ∀ i, i < bN z → cHeld z mg f1 i := fun i hi => hh i (by omega) hi
      refine jw_loop3 (X := Nat) (fun i => bN z - i) (fun i H L ls => (i ≤ bN z ∧ bW D g ad (zCs z i pk) r1 f1 H ∧ bTo ad s.heap H L) ∧ lv_has ls 4 [(0, .ref (ad 0)), (1, .int (jI (mg))), (2, .int (jI ((i : Int))))]) ?_ 0 H L ls ⟨⟨Nat.zero_le _, by rw [zCs_0]; exact hPic, hT0⟩, lv_sub hl [1, 2, 0] rfl⟩
      clear ih hr9 hh hnr hPic hT0 hl
      intro i H L ls hinv ih
      obtain ⟨⟨hi9, hPic, hT0⟩, hl⟩ := hinv
      obtain ⟨w, hw⟩ : ∃ w9 : bSt, w9 = zCs z i pk := ⟨_, rfl⟩
      rw [← hw] at hPic
      have eN9 : bN w = bN z := by rw [hw, zCs_N]
      have eU9 : bU w = bU z := by rw [hw, zCs_U]
      have hx0 : va_at D vwCl (ad 0, .inr (3, [.ref (ad 1), .int (jI ((bN w : Int))), .int (jI (bV w))])) H := hPic 0 (by omega)
      have hx1 : va_at D vwCl (ad 1, .inl (g 2, 8, .inr (.inr (.inr (.inr (fun j => some (ad (2 + 12 * j)))))))) H := hPic 1 (by omega)
      rw [eN9] at hx0
      refine lv_iload_n hx hb dX3_settle_67 rfl (lv_at hl 2 rfl) ?_
      refine lv_aload_n hx hb dX3_settle_68 rfl (lv_at hl 0 rfl) ?_
      refine va_get (D := D) (ci := 3) (v := .int (jI ((bN z : Int)))) (C := RX3) (T := TX3) (N := 3) hx hb hts (fun w h => List.mem_cons_of_mem _ (uw_X3 w h)) hown hK (j_P1 hx0) 0 rfl rfl 1 (by decide) (hts _ (List.mem_cons_of_mem _ kw_122)) (fun _ h9 => h9) rfl dX3_settle_69 ?_
      refine jv_icmp_ge (tgt := 122) hx hb dX3_settle_72 (by decide) (by omega) (by omega) (fun c72 => ?_) (fun c72 => ?_)
      · refine jv_iconst hx hb dX3_settle_122 ?_
        have hin9 : i = bN z := by omega
        rw [hw, hin9] at hPic
        exact b_zret hx hb hr hlocks dX3_settle_123 trivial hPic hT0 (by rfl)
      · have hhi := hheld i (by omega)
        cases hU : bU z i with
        | none =>
          have hx0 : va_at D vwCl (ad 0, .inr (3, [.ref (ad 1), .int (jI ((bN w : Int))), .int (jI (bV w))])) H := hPic 0 (by omega)
          have hx1 : va_at D vwCl (ad 1, .inl (g 2, 8, .inr (.inr (.inr (.inr (fun j => some (ad (2 + 12 * j)))))))) H := hPic 1 (by omega)
          have hd0_i : va_at D vwCl (ad (2 + 12 * i), .inr (1, [.int (jI ((i : Int))), .ref (ad (2 + 12 * i + 1)), .ref (ad (2 + 12 * i + 5)), .ref (ad (2 + 12 * i + 10)), .ref (ad (2 + 12 * i + 11)), va_rf ((bU w i).map (fun u => ad (2 + 12 * u))), .int (jI ((bO w i : Int))), .int (jI ((bC w i : Int))), .int (jI (bZ w i))])) H := bW_at hPic (i := i) (by omega) 0 (by omega)
          have hd11_i : va_at D vwCl (ad (2 + 12 * i + 11), .inl (g 0, 4, .inl (fun j => jI (f1 i j)))) H := bW_at hPic (i := i) (by omega) 11 (by omega)
          rw [eN9] at hx0
          rw [eU9, hU] at hd0_i
          refine lv_aload_n hx hb dX3_settle_75 rfl (lv_at hl 0 rfl) ?_
          refine va_get (D := D) (ci := 3) (v := .ref (ad 1)) (C := RX3) (T := TX3) (N := 3) hx hb hts (fun w h => List.mem_cons_of_mem _ (uw_X3 w h)) hown hK (j_P1 hx0) 0 rfl rfl 0 (by decide) (hts _ (List.mem_cons_of_mem _ kw_121)) (fun _ h9 => h9) rfl dX3_settle_76 ?_
          refine lv_iload_n hx hb dX3_settle_79 rfl (lv_at hl 2 rfl) ?_
          refine jv_aldq (i := i) hx hb hK hx1 2 rfl (by omega) (by omega) (by decide) dX3_settle_80 ?_
          refine va_get (D := D) (ci := 1) (v := .null) (C := RX1) (T := TX1) (N := 9) hx hb hts (fun w h => List.mem_cons_of_mem _ (uw_X1 w h)) hown hK (j_P1 hd0_i) 0 rfl rfl 5 (by decide) (hts _ (List.mem_cons_of_mem _ kw_95)) (fun _ h9 => h9) rfl dX3_settle_81 ?_
          refine lv_astore_nN (lv' := [(3, .null), (0, .ref (ad 0)), (1, .int (jI (mg))), (2, .int (jI ((i : Int))))]) hx hb dX3_settle_84 rfl hl (by decide) rfl (fun ls hl => ?_)
          refine lv_aload_n hx hb dX3_settle_85 rfl (lv_at hl 1 rfl) ?_
          refine va_get (D := D) (ci := 3) (v := .ref (ad 1)) (C := RX3) (T := TX3) (N := 3) hx hb hts (fun w h => List.mem_cons_of_mem _ (uw_X3 w h)) hown hK (j_P1 hx0) 0 rfl rfl 0 (by decide) (hts _ (List.mem_cons_of_mem _ kw_121)) (fun _ h9 => h9) rfl dX3_settle_86 ?_
          refine lv_iload_n hx hb dX3_settle_89 rfl (lv_at hl 3 rfl) ?_
          refine jv_aldq (i := i) hx hb hK hx1 2 rfl (by omega) (by omega) (by decide) dX3_settle_90 ?_
          refine lv_aload_n hx hb dX3_settle_91 rfl (lv_at hl 1 rfl) ?_
          refine va_get (D := D) (ci := 3) (v := .ref (ad 1)) (C := RX3) (T := TX3) (N := 3) hx hb hts (fun w h => List.mem_cons_of_mem _ (uw_X3 w h)) hown hK (j_P1 hx0) 0 rfl rfl 0 (by decide) (hts _ (List.mem_cons_of_mem _ kw_121)) (fun _ h9 => h9) rfl dX3_settle_92 ?_
          refine lv_iload_n hx hb dX3_settle_95 rfl (lv_at hl 3 rfl) ?_
          refine jv_aldq (i := i) hx hb hK hx1 2 rfl (by omega) (by omega) (by decide) dX3_settle_96 ?_
          refine va_get (D := D) (ci := 1) (v := .ref (ad (2 + 12 * i + 11))) (C := RX1) (T := TX1) (N := 9) hx hb hts (fun w h => List.mem_cons_of_mem _ (uw_X1 w h)) hown hK (j_P1 hd0_i) 0 rfl rfl 4 (by decide) (hts _ (List.mem_cons_of_mem _ kw_93)) (fun _ h9 => h9) rfl dX3_settle_97 ?_
          refine lv_aload_nN hx hb dX3_settle_100 rfl (lv_at hl 0 rfl) ?_
          refine lv_ifnonnullN hx hb dX3_settle_101 ?_
          refine jv_iconst hx hb dX3_settle_104 ?_
          refine lv_goto (tgt := 112) hx hb dX3_settle_105 (by decide) ?_
          refine jv_iald (i := 0) hx hb hK hd11_i 0 rfl (by omega) (by omega) (by decide) dX3_settle_112 ?_
          rw [show f1 i 0 = (pk i : Int) from (hhi.1 hU).trans (hp0 i (by omega) hU)]
          refine jv_put (D := D) (ci := 1) (v := .int (jI ((pk i : Int)))) (ty := .int) (C := RX1) (T := TX1) (N := 9) hx hb hts (fun w h => List.mem_cons_of_mem _ (uw_X1 w h)) tyX1 tyX1_ok nmX1 hown hK hd0_i rfl 7 (by decide) (hts _ (List.mem_cons_of_mem _ kw_99)) (fun _ h9 => h9) rfl (by decide +kernel) rfl rfl (Nat.le_of_ble_eq_true rfl) dX3_settle_113 (fun H f9 hn9 hz9 oq9 => ?_)
          have hPic := bX_dev hj hPic (w := zCs z (i + 1) pk) (i := i) (by omega) (by rw [hw, zCs_N, zCs_N]) (by rw [hw, zCs_V, zCs_V]) (by rw [hw, zCs_K, zCs_K]) (by rw [hw, zCs_P, zCs_P]) (by rw [hw, zCs_L, zCs_L]) (by rw [hw, zCs_M, zCs_M]) (by rw [hw, zCs_S, zCs_S]) (by rw [hw, zCs_D, zCs_D]) (fun i2 h2 => by rw [hw]; exact ⟨by rw [zCs_U, zCs_U], by rw [zCs_O, zCs_O], zCs_step h2, by rw [zCs_Z, zCs_Z]⟩) (show bU (zCs z (i + 1) pk) i = none by rw [zCs_U]; exact hU) (show bO (zCs z (i + 1) pk) i = bO w i by rw [hw, zCs_O, zCs_O]) (zCs_lt (Nat.lt_succ_self i)) (show bZ (zCs z (i + 1) pk) i = bZ w i by rw [hw, zCs_Z, zCs_Z]) oq9 hn9
          have hT0 := hT0.put (2 + 12 * i) (by omega) hz9 oq9 (f := f9)
          refine lv_iinc (v := jI ((i : Int) + 1)) (lv' := [(2, .int (jI ((i : Int) + 1))), (3, .null), (0, .ref (ad 0)), (1, .int (jI (mg)))]) hx hb dX3_settle_116 hl (k := 3) rfl (jI_add _ _) (by decide) rfl (fun ls hl => ?_)
          refine lv_goto (tgt := 67) hx hb dX3_settle_119 (by decide) ?_
          exact ih (i + 1) H _ ls ⟨⟨by omega, hPic, hT0⟩, lv_sub hl [2, 3, 0] rfl⟩ (by omega)
        | some u =>
          have hul := hz.2.2.2 i u (by omega) hU
          have hpu := hpo u (by omega)
          have fu := hz.2.2.1 u (by omega)
          have hx0 : va_at D vwCl (ad 0, .inr (3, [.ref (ad 1), .int (jI ((bN w : Int))), .int (jI (bV w))])) H := hPic 0 (by omega)
          have hx1 : va_at D vwCl (ad 1, .inl (g 2, 8, .inr (.inr (.inr (.inr (fun j => some (ad (2 + 12 * j)))))))) H := hPic 1 (by omega)
          have hd0_i : va_at D vwCl (ad (2 + 12 * i), .inr (1, [.int (jI ((i : Int))), .ref (ad (2 + 12 * i + 1)), .ref (ad (2 + 12 * i + 5)), .ref (ad (2 + 12 * i + 10)), .ref (ad (2 + 12 * i + 11)), va_rf ((bU w i).map (fun u => ad (2 + 12 * u))), .int (jI ((bO w i : Int))), .int (jI ((bC w i : Int))), .int (jI (bZ w i))])) H := bW_at hPic (i := i) (by omega) 0 (by omega)
          have hd11_i : va_at D vwCl (ad (2 + 12 * i + 11), .inl (g 0, 4, .inl (fun j => jI (f1 i j)))) H := bW_at hPic (i := i) (by omega) 11 (by omega)
          have hd0_u : va_at D vwCl (ad (2 + 12 * u), .inr (1, [.int (jI ((u : Int))), .ref (ad (2 + 12 * u + 1)), .ref (ad (2 + 12 * u + 5)), .ref (ad (2 + 12 * u + 10)), .ref (ad (2 + 12 * u + 11)), va_rf ((bU w u).map (fun u => ad (2 + 12 * u))), .int (jI ((bO w u : Int))), .int (jI ((bC w u : Int))), .int (jI (bZ w u))])) H := bW_at hPic (i := u) (by omega) 0 (by omega)
          rw [eN9] at hx0
          rw [eU9, hU] at hd0_i
          rw [show bC w u = pk u from by rw [hw]; exact zCs_lt hul] at hd0_u
          refine lv_aload_n hx hb dX3_settle_75 rfl (lv_at hl 0 rfl) ?_
          refine va_get (D := D) (ci := 3) (v := .ref (ad 1)) (C := RX3) (T := TX3) (N := 3) hx hb hts (fun w h => List.mem_cons_of_mem _ (uw_X3 w h)) hown hK (j_P1 hx0) 0 rfl rfl 0 (by decide) (hts _ (List.mem_cons_of_mem _ kw_121)) (fun _ h9 => h9) rfl dX3_settle_76 ?_
          refine lv_iload_n hx hb dX3_settle_79 rfl (lv_at hl 2 rfl) ?_
          refine jv_aldq (i := i) hx hb hK hx1 2 rfl (by omega) (by omega) (by decide) dX3_settle_80 ?_
          refine va_get (D := D) (ci := 1) (v := .ref (ad (2 + 12 * u))) (C := RX1) (T := TX1) (N := 9) hx hb hts (fun w h => List.mem_cons_of_mem _ (uw_X1 w h)) hown hK (j_P1 hd0_i) 0 rfl rfl 5 (by decide) (hts _ (List.mem_cons_of_mem _ kw_95)) (fun _ h9 => h9) rfl dX3_settle_81 ?_
          refine lv_astore_n (lv' := [(3, .ref (ad (2 + 12 * u))), (0, .ref (ad 0)), (1, .int (jI (mg))), (2, .int (jI ((i : Int))))]) hx hb dX3_settle_84 rfl hl (by decide) rfl (fun ls hl => ?_)
          refine lv_aload_n hx hb dX3_settle_85 rfl (lv_at hl 1 rfl) ?_
          refine va_get (D := D) (ci := 3) (v := .ref (ad 1)) (C := RX3) (T := TX3) (N := 3) hx hb hts (fun w h => List.mem_cons_of_mem _ (uw_X3 w h)) hown hK (j_P1 hx0) 0 rfl rfl 0 (by decide) (hts _ (List.mem_cons_of_mem _ kw_121)) (fun _ h9 => h9) rfl dX3_settle_86 ?_
          refine lv_iload_n hx hb dX3_settle_89 rfl (lv_at hl 3 rfl) ?_
          refine jv_aldq (i := i) hx hb hK hx1 2 rfl (by omega) (by omega) (by decide) dX3_settle_90 ?_
          refine lv_aload_n hx hb dX3_settle_91 rfl (lv_at hl 1 rfl) ?_
          refine va_get (D := D) (ci := 3) (v := .ref (ad 1)) (C := RX3) (T := TX3) (N := 3) hx hb hts (fun w h => List.mem_cons_of_mem _ (uw_X3 w h)) hown hK (j_P1 hx0) 0 rfl rfl 0 (by decide) (hts _ (List.mem_cons_of_mem _ kw_121)) (fun _ h9 => h9) rfl dX3_settle_92 ?_
          refine lv_iload_n hx hb dX3_settle_95 rfl (lv_at hl 3 rfl) ?_
          refine jv_aldq (i := i) hx hb hK hx1 2 rfl (by omega) (by omega) (by decide) dX3_settle_96 ?_
          refine va_get (D := D) (ci := 1) (v := .ref (ad (2 + 12 * i + 11))) (C := RX1) (T := TX1) (N := 9) hx hb hts (fun w h => List.mem_cons_of_mem _ (uw_X1 w h)) hown hK (j_P1 hd0_i) 0 rfl rfl 4 (by decide) (hts _ (List.mem_cons_of_mem _ kw_93)) (fun _ h9 => h9) rfl dX3_settle_97 ?_
          refine lv_aload_n hx hb dX3_settle_100 rfl (lv_at hl 0 rfl) ?_
          refine lv_ifnonnull (tgt := 108) hx hb dX3_settle_101 (by decide) ?_
          refine lv_aload_n hx hb dX3_settle_108 rfl (lv_at hl 0 rfl) ?_
          refine va_get (D := D) (ci := 1) (v := .int (jI ((pk u : Int)))) (C := RX1) (T := TX1) (N := 9) hx hb hts (fun w h => List.mem_cons_of_mem _ (uw_X1 w h)) hown hK (j_P1 hd0_u) 0 rfl rfl 7 (by decide) (hts _ (List.mem_cons_of_mem _ kw_99)) (fun _ h9 => h9) rfl dX3_settle_109 ?_
          refine jv_iald (i := (pk u)) hx hb hK hd11_i 0 rfl (by omega) (by omega) (by decide) dX3_settle_112 ?_
          rw [show f1 i (pk u) = (pk i : Int) from (hhi.2 u hU (pk u) hpu).trans (hpk i u (by omega) hU)]
          refine jv_put (D := D) (ci := 1) (v := .int (jI ((pk i : Int)))) (ty := .int) (C := RX1) (T := TX1) (N := 9) hx hb hts (fun w h => List.mem_cons_of_mem _ (uw_X1 w h)) tyX1 tyX1_ok nmX1 hown hK hd0_i rfl 7 (by decide) (hts _ (List.mem_cons_of_mem _ kw_99)) (fun _ h9 => h9) rfl (by decide +kernel) rfl rfl (Nat.le_of_ble_eq_true rfl) dX3_settle_113 (fun H f9 hn9 hz9 oq9 => ?_)
          have hPic := bX_dev hj hPic (w := zCs z (i + 1) pk) (i := i) (by omega) (by rw [hw, zCs_N, zCs_N]) (by rw [hw, zCs_V, zCs_V]) (by rw [hw, zCs_K, zCs_K]) (by rw [hw, zCs_P, zCs_P]) (by rw [hw, zCs_L, zCs_L]) (by rw [hw, zCs_M, zCs_M]) (by rw [hw, zCs_S, zCs_S]) (by rw [hw, zCs_D, zCs_D]) (fun i2 h2 => by rw [hw]; exact ⟨by rw [zCs_U, zCs_U], by rw [zCs_O, zCs_O], zCs_step h2, by rw [zCs_Z, zCs_Z]⟩) (show bU (zCs z (i + 1) pk) i = some u by rw [zCs_U]; exact hU) (show bO (zCs z (i + 1) pk) i = bO w i by rw [hw, zCs_O, zCs_O]) (zCs_lt (Nat.lt_succ_self i)) (show bZ (zCs z (i + 1) pk) i = bZ w i by rw [hw, zCs_Z, zCs_Z]) oq9 hn9
          have hT0 := hT0.put (2 + 12 * i) (by omega) hz9 oq9 (f := f9)
          refine lv_iinc (v := jI ((i : Int) + 1)) (lv' := [(2, .int (jI ((i : Int) + 1))), (3, .ref (ad (2 + 12 * u))), (0, .ref (ad 0)), (1, .int (jI (mg)))]) hx hb dX3_settle_116 hl (k := 3) rfl (jI_add _ _) (by decide) rfl (fun ls hl => ?_)
          refine lv_goto (tgt := 67) hx hb dX3_settle_119 (by decide) ?_
          exact ih (i + 1) H _ ls ⟨⟨by omega, hPic, hT0⟩, lv_sub hl [2, 3, 0] rfl⟩ (by omega)
    · refine lv_aload_n hx hb dX3_settle_44 rfl (lv_at hl 0 rfl) ?_
      refine va_get (D := D) (ci := 3) (v := .ref (ad 1)) (C := RX3) (T := TX3) (N := 3) hx hb hts (fun w h => List.mem_cons_of_mem _ (uw_X3 w h)) hown hK (j_P1 hx0) 0 rfl rfl 0 (by decide) (hts _ (List.mem_cons_of_mem _ kw_121)) (fun _ h9 => h9) rfl dX3_settle_45 ?_
      refine lv_iload_n hx hb dX3_settle_48 rfl (lv_at hl 2 rfl) ?_
      refine jv_aldq (i := (bN z - 1 - m9)) hx hb hK hx1 2 rfl (by omega) (by omega) (by decide) dX3_settle_49 ?_
      refine lv_iload_n hx hb dX3_settle_50 rfl (lv_at hl 1 rfl) ?_
      cases hU : bU z (bN z - 1 - m9) with
      | none =>
        refine b_call (va_runS (As := [.ref (ad (2 + 12 * (bN z - 1 - m9))), .int (jI (mg))]) (rest := []) ⟨hx, hb, hml, hown, hts⟩ (c_tryOptions0 l D g ad z r1 f1 hz hj (bN z - 1 - m9) mg (by omega) hU hmg) (cwS 2 hts (gd_S kw_357 kw_358 kw_12 kcX3_tryOptions) rfl rfl rfl (by decide +kernel) ⟨Nat.le_of_ble_eq_true rfl, Nat.le_of_ble_eq_true rfl⟩) (pu_preS hPic hK) rfl rfl hl.1 rfl (lv_room (Nat.le_of_ble_eq_true rfl)) dX3_settle_51 ⟨Nat.zero_le _, Nat.zero_le _⟩) hT0 (fun H locs rl ff hPh hPic hT0 => ?_)
        refine W.eq (g2 := F0 m 54 ls [.int (jI (bI (!decide (cFit (fun j => !r1 (bN z - 1 - m9) j) (bO z (bN z - 1 - m9)) 0 = -1))))]) rfl ?_
        refine jv_if_ne (tgt := 59) hx hb dX3_settle_54 (by decide) (bI_rng _) (fun c54 => ?_) (fun c54 => ?_)
        · have c54 := bI_tr c54
          have c54 : ¬ (cFit (fun j => !r1 (bN z - 1 - m9) j) (bO z (bN z - 1 - m9)) 0 = -1) := by simpa using c54
          refine lv_iinc (v := jI (((bN z : Int) - 1 - (m9 : Int)) + (-1))) (lv' := [(2, .int (jI (((bN z : Int) - 1 - (m9 : Int)) + (-1)))), (0, .ref (ad 0)), (1, .int (jI (mg)))]) hx hb dX3_settle_59 hl (k := 2) rfl (jI_add _ _) (by decide) rfl (fun ls hl => ?_)
          refine lv_goto (tgt := 40) hx hb dX3_settle_62 (by decide) ?_
          obtain ⟨k1, k2, k3⟩ := hPh
          exact ih (m9 + 1, rl, ff) H _ ls ⟨⟨by dsimp only; omega, fun q hq k hk => by dsimp only; rw [k1, hr9 q hq k hk, cRul_s0 hU], fun q h1 h2 => by dsimp only at h1 ⊢; by_cases hq : q = bN z - 1 - m9; (· subst hq; exact ⟨fun _ => k3.trans (cTry0 hz (by omega) hr9), fun v hv => (by rw [hU] at hv; cases hv)⟩); (· have h9 := hh q (by omega) h2; exact ⟨fun h => (by rw [k2 q hq]; exact h9.1 h), fun v hv k hk => (by rw [k2 q hq]; exact h9.2 v hv k hk)⟩), fun q h1 h2 h3 => by dsimp only at h1; by_cases hq : q = bN z - 1 - m9; (· subst hq; rw [← cTry0 hz (by omega) hr9]; exact c54); (· exact hnr q (by omega) h2 h3), hPic, hT0⟩, by dsimp only; rw [show (bN z : Int) - 1 - ((m9 + 1 : Nat) : Int) = (bN z : Int) - 1 - (m9 : Int) + (-1) by omega]; exact lv_sub hl [1, 2, 0] rfl⟩ (by dsimp only; omega)
        · exact absurd (bI_fa c54) (by rw [cTry0 hz (by omega) hr9, decide_eq_false (hA _ (by omega) hU)]; decide)
      | some u =>
        have hul := hz.2.2.2 (bN z - 1 - m9) u (by omega) hU
        refine b_call (va_runS (As := [.ref (ad (2 + 12 * (bN z - 1 - m9))), .int (jI (mg))]) (rest := []) ⟨hx, hb, hml, hown, hts⟩ (c_tryOptions1 l D g ad z r1 f1 hz hj (bN z - 1 - m9) u mg (by omega) hul hU hmg) (cwS 2 hts (gd_S kw_357 kw_358 kw_12 kcX3_tryOptions) rfl rfl rfl (by decide +kernel) ⟨Nat.le_of_ble_eq_true rfl, Nat.le_of_ble_eq_true rfl⟩) (pu_preS hPic hK) rfl rfl hl.1 rfl (lv_room (Nat.le_of_ble_eq_true rfl)) dX3_settle_51 ⟨Nat.zero_le _, Nat.zero_le _⟩) hT0 (fun H locs rl ff hPh hPic hT0 => ?_)
        refine W.eq (g2 := F0 m 54 ls [.int (jI (bI true))]) rfl ?_
        refine jv_if_ne (tgt := 59) hx hb dX3_settle_54 (by decide) (bI_rng _) (fun c54 => ?_) (fun c54 => ?_)
        · refine lv_iinc (v := jI (((bN z : Int) - 1 - (m9 : Int)) + (-1))) (lv' := [(2, .int (jI (((bN z : Int) - 1 - (m9 : Int)) + (-1)))), (0, .ref (ad 0)), (1, .int (jI (mg)))]) hx hb dX3_settle_59 hl (k := 2) rfl (jI_add _ _) (by decide) rfl (fun ls hl => ?_)
          refine lv_goto (tgt := 40) hx hb dX3_settle_62 (by decide) ?_
          obtain ⟨k1, k2, k3, k4⟩ := hPh
          exact ih (m9 + 1, rl, ff) H _ ls ⟨⟨by dsimp only; omega, cTry1r hz (by omega) hU hr9 k1 k2, fun q h1 h2 => by dsimp only at h1 ⊢; by_cases hq : q = bN z - 1 - m9; (· subst hq; exact ⟨fun h => (by rw [hU] at h; cases h), fun v hv k hk => (by rw [hU] at hv; cases hv; rw [k4 k hk]; exact cTry1 hz (by omega) hU hr9)⟩); (· have h9 := hh q (by omega) h2; exact ⟨fun h => (by rw [k3 q hq]; exact h9.1 h), fun v hv k hk => (by rw [k3 q hq]; exact h9.2 v hv k hk)⟩), fun q h1 h2 h3 => by dsimp only at h1; by_cases hq : q = bN z - 1 - m9; (· subst hq; rw [hU] at h3; cases h3); (· exact hnr q (by omega) h2 h3), hPic, hT0⟩, by dsimp only; rw [show (bN z : Int) - 1 - ((m9 + 1 : Nat) : Int) = (bN z : Int) - 1 - (m9 : Int) + (-1) by omega]; exact lv_sub hl [1, 2, 0] rfl⟩ (by dsimp only; omega)
        · exact absurd c54 (by decide)
  · have hx0 : va_at D vwCl (ad 0, .inr (3, [.ref (ad 1), .int (jI ((bN z : Int))), .int (jI (bV z))])) H := hPic 0 (by omega)
    have hx1 : va_at D vwCl (ad 1, .inl (g 2, 8, .inr (.inr (.inr (.inr (fun j => some (ad (2 + 12 * j)))))))) H := hPic 1 (by omega)
    have hd0_i : va_at D vwCl (ad (2 + 12 * i), .inr (1, [.int (jI ((i : Int))), .ref (ad (2 + 12 * i + 1)), .ref (ad (2 + 12 * i + 5)), .ref (ad (2 + 12 * i + 10)), .ref (ad (2 + 12 * i + 11)), va_rf ((bU z i).map (fun u => ad (2 + 12 * u))), .int (jI ((bO z i : Int))), .int (jI ((bC z i : Int))), .int (jI (bZ z i))])) H := bW_at hPic (i := i) (by omega) 0 (by omega)
    refine lv_aload_n hx hb dX3_settle_18 rfl (lv_at hl 0 rfl) ?_
    refine va_get (D := D) (ci := 3) (v := .ref (ad 1)) (C := RX3) (T := TX3) (N := 3) hx hb hts (fun w h => List.mem_cons_of_mem _ (uw_X3 w h)) hown hK (j_P1 hx0) 0 rfl rfl 0 (by decide) (hts _ (List.mem_cons_of_mem _ kw_121)) (fun _ h9 => h9) rfl dX3_settle_19 ?_
    refine lv_iload_n hx hb dX3_settle_22 rfl (lv_at hl 2 rfl) ?_
    refine jv_aldq (i := i) hx hb hK hx1 2 rfl (by omega) (by omega) (by decide) dX3_settle_23 ?_
    refine b_call (va_runV (As := []) (rest := []) ⟨hx, hb, hml, hown, hts⟩ (c_forgetTries l D g ad z r1 f1 hz hj i (by omega)) (cwV 0 hts (gd_V kw_353 kw_354 kw_355 kw_13 kcX1_forgetTries) rfl rfl rfl (by decide +kernel) ⟨Nat.le_of_ble_eq_true rfl, Nat.le_of_ble_eq_true rfl⟩) (pu_preV hPic hK rfl hd0_i) rfl rfl hl.1 rfl (lv_room (Nat.le_of_ble_eq_true rfl)) dX3_settle_24 ⟨Nat.zero_le _, Nat.zero_le _⟩) hT0 (fun H locs rl ff hPh hPic hT0 => ?_)
    refine W.eq (g2 := F0 m 27 ls []) rfl ?_
    refine lv_iinc (v := jI ((i : Int) + 1)) (lv' := [(2, .int (jI ((i : Int) + 1))), (0, .ref (ad 0)), (1, .int (jI (mg)))]) hx hb dX3_settle_27 hl (k := 2) rfl (jI_add _ _) (by decide) rfl (fun ls hl => ?_)
    refine lv_goto (tgt := 10) hx hb dX3_settle_30 (by decide) ?_
    obtain ⟨-, hro, hrf⟩ := hPh
    exact ih (i + 1, rl, ff) H _ ls ⟨⟨by dsimp only; omega, fun q hq k hk => by dsimp only at hq ⊢; by_cases hqi : q = i; (· subst hqi; exact hrf k hk); (· rw [hro q hqi]; exact hrk q (by omega) k hk), hPic, hT0⟩, lv_sub hl [1, 2, 0] rfl⟩ (by dsimp only; omega)
