set_option maxHeartbeats 4000000 in
set_option maxRecDepth 100000 in
theorem c_settle0 (l : Launch) (D : va_G) (g : Nat → ClassId) (ad : Nat → Nat) (z : bSt) (rl : Nat → Nat → Bool) (ff : Nat → Nat → Int) (hz : bOK z) (hj : bInj ad) (mg : Int) (hmg : 0 ≤ mg ∧ mg ≤ 10000) (hE : ∃ i, i < bN z ∧ bU z i = none ∧ cF0 (bN z) (bU z) (bO z) (okf z mg) i = -1) : Met l yX3_settle wsX3_settle ({ frames := 6, cells := 0, slots := 0, locals := 159 }) (pu_Pc [.ref (ad 0), .int (jI (mg))] D vwCl (ty9 g) (fun H => bW D g ad z rl ff H)) (bQ D g ad (some (.int (jI (bI false)))) (z) (fun _ _ => True)) 0 0 (bFr ad) := by
  refine Met.ofW (cc := cX3_settle) (maxL := 4) (ret := some .boolean) (by decide) rfl ?_
  intro p e s m args below meth c s₁ B hml hv
  obtain ⟨rfl, hPic, hK⟩ := hv
  have hx := B.exec
  have hb := B.bytes
  have hr := B.returns
  have hts := atoms_spec (ws := wsX3_settle) B.pre
  have hown : s.vm.findClass RX3 = some m.cls := findClass_of_methodNamed B.named
  have hlocks := B.notSynchronized
  have hx0 : va_at D vwCl (ad 0, .inr (3, [.ref (ad 1), .int (jI ((bN z : Int))), .int (jI (bV z))])) s.heap := hPic 0 (by omega)
  have hx1 : va_at D vwCl (ad 1, .inl (g 2, 8, .inr (.inr (.inr (.inr (fun j => some (ad (2 + 12 * j)))))))) s.heap := hPic 1 (by omega)
  have hN := hz.1
  have hl := lv_entry ([.ref (ad 0), .int (jI (mg))]) (n := 4) (Nat.le_of_ble_eq_true rfl)
  rw [lg_entry_eq]
  generalize (lg_sl ([.ref (ad 0), .int (jI (mg))]) ++ List.replicate (4 - (lg_sl ([.ref (ad 0), .int (jI (mg))])).length) Slot.unset).toArray = ls at hl ⊢
  have hl : lv_has ls 4 [(0, .ref (ad 0)), (1, .int (jI (mg)))] := hl
  have hT0 : bTo ad s.heap s.heap [] := bTo.rf
  refine lv_iload_n hx hb dX3_settle_0 rfl (lv_at hl 1 rfl) ?_
  refine jv_iconst hx hb dX3_settle_1 ?_
  refine jv_sipush hx hb dX3_settle_2 (by decide) ?_
  refine pu_call (va_runS (As := [.int (jI (mg)), .int (jI (0)), .int (jI (10000))]) (rest := []) ⟨hx, hb, hml, hown, hts⟩ (c_demandWithin l D g mg 0 10000 (by omega) (by omega) (by omega) (by omega)) (cwS 3 hts (gd_S kw_234 kw_235 kw_12 kcX3_demandWithin) rfl rfl rfl (by decide +kernel) ⟨Nat.le_of_ble_eq_true rfl, Nat.le_of_ble_eq_true rfl⟩) (pu_preS trivial hK) rfl rfl hl.1 rfl (lv_room (Nat.le_of_ble_eq_true rfl)) dX3_settle_5 ⟨Nat.zero_le _, Nat.zero_le _⟩) ?_
  refine jv_iconst hx hb dX3_settle_8 ?_
  refine lv_istore_n (lv' := [(2, .int (jI (0))), (0, .ref (ad 0)), (1, .int (jI (mg)))]) hx hb dX3_settle_9 rfl hl (by decide) rfl (fun ls hl => ?_)
  refine jw_loop3 (X := Nat × (Nat → Nat → Bool) × (Nat → Nat → Int)) (fun x => bN z - x.1) (fun x H L ls => (x.1 ≤ bN z ∧ (∀ q, q < x.1 → ∀ k, k < 4 → x.2.1 q k = false) ∧ bW D g ad z x.2.1 x.2.2 H ∧ bTo ad s.heap H L) ∧ lv_has ls 4 [(0, .ref (ad 0)), (1, .int (jI (mg))), (2, .int (jI ((x.1 : Int))))]) ?_ (0, rl, ff) s.heap [] ls ⟨⟨Nat.zero_le _, fun q hq => absurd hq (Nat.not_lt_zero q), hPic, hT0⟩, lv_sub hl [1, 2, 0] rfl⟩
  intro x H L ls hinv ih
  obtain ⟨i, r1, f1⟩ := x
  obtain ⟨⟨hi9, hrk, hPic, hT0⟩, hl⟩ := hinv
  dsimp only at hi9 hrk hPic
  have hl : lv_has ls 4 [(0, .ref (ad 0)), (1, .int (jI (mg))), (2, .int (jI ((i : Int))))] := hl
  have hx0 : va_at D vwCl (ad 0, .inr (3, [.ref (ad 1), .int (jI ((bN z : Int))), .int (jI (bV z))])) H := hPic 0 (by omega)
  have hx1 : va_at D vwCl (ad 1, .inl (g 2, 8, .inr (.inr (.inr (.inr (fun j => some (ad (2 + 12 * j)))))))) H := hPic 1 (by omega)
  refine lv_iload_n hx hb dX3_settle_10 rfl (lv_at hl 2 rfl) ?_
  refine lv_aload_n hx hb dX3_settle_11 rfl (lv_at hl 0 rfl) ?_
  refine va_get (D := D) (ci := 3) (v := .int (jI ((bN z : Int)))) (C := RX3) (T := TX3) (N := 3) hx hb hts (fun w h => List.mem_cons_of_mem _ (uw_X3 w h)) hown hK (j_P1 hx0) 0 rfl rfl 1 (by decide) (hts _ (List.mem_cons_of_mem _ kw_122)) (fun _ h9 => h9) rfl dX3_settle_12 ?_
  refine jv_icmp_ge (tgt := 33) hx hb dX3_settle_15 (by decide) (by omega) (by omega) (fun c15 => ?_) (fun c15 => ?_)
  · refine lv_aload_n hx hb dX3_settle_33 rfl (lv_at hl 0 rfl) ?_
    refine va_get (D := D) (ci := 3) (v := .int (jI ((bN z : Int)))) (C := RX3) (T := TX3) (N := 3) hx hb hts (fun w h => List.mem_cons_of_mem _ (uw_X3 w h)) hown hK (j_P1 hx0) 0 rfl rfl 1 (by decide) (hts _ (List.mem_cons_of_mem _ kw_122)) (fun _ h9 => h9) rfl dX3_settle_34 ?_
    refine jv_iconst hx hb dX3_settle_37 ?_
    refine jv_isub hx hb dX3_settle_38 ?_
    refine lv_istore_n (lv' := [(2, .int (jI ((bN z : Int) - 1))), (0, .ref (ad 0)), (1, .int (jI (mg)))]) hx hb dX3_settle_39 rfl hl (by decide) rfl (fun ls hl => ?_)
    refine jw_loop3 (X := Nat × (Nat → Nat → Bool) × (Nat → Nat → Int)) (fun x => bN z - x.1) (fun x H L ls => (x.1 ≤ bN z ∧ (∀ i, i < bN z → ∀ k, k < 4 → x.2.1 i k = cRul (bN z) (bU z) (bO z) (okf z mg) x.1 i k) ∧ (∀ i, bN z - x.1 ≤ i → i < bN z → cHeld z mg x.2.2 i) ∧ (∀ i, bN z - x.1 ≤ i → i < bN z → bU z i = none → cF0 (bN z) (bU z) (bO z) (okf z mg) i ≠ -1) ∧ bW D g ad z x.2.1 x.2.2 H ∧ bTo ad s.heap H L) ∧ lv_has ls 4 [(0, .ref (ad 0)), (1, .int (jI (mg))), (2, .int (jI ((bN z : Int) - 1 - (x.1 : Int))))]) ?_ (0, r1, f1) H L ls ⟨⟨Nat.zero_le _, fun q hq k hk => hrk q (by omega) k hk, fun q h1 h2 => by dsimp only at h1; omega, fun q h1 h2 => by dsimp only at h1; omega, hPic, hT0⟩, by dsimp only; rw [show (bN z : Int) - 1 - ((0 : Nat) : Int) = (bN z : Int) - 1 by omega]; exact lv_sub hl [1, 2, 0] rfl⟩
    clear ih hrk hi9 hPic hT0 hl
    intro x H L ls hinv ih
    obtain ⟨m9, r1, f1⟩ := x
    obtain ⟨⟨hm, hr9, hh, hnr, hPic, hT0⟩, hl⟩ := hinv
    dsimp only at hm hr9 hh hnr hPic
    have hl : lv_has ls 4 [(0, .ref (ad 0)), (1, .int (jI (mg))), (2, .int (jI ((bN z : Int) - 1 - (m9 : Int))))] := hl
    have hx0 : va_at D vwCl (ad 0, .inr (3, [.ref (ad 1), .int (jI ((bN z : Int))), .int (jI (bV z))])) H := hPic 0 (by omega)
    have hx1 : va_at D vwCl (ad 1, .inl (g 2, 8, .inr (.inr (.inr (.inr (fun j => some (ad (2 + 12 * j)))))))) H := hPic 1 (by omega)
    refine lv_iload_n hx hb dX3_settle_40 rfl (lv_at hl 2 rfl) ?_
    refine jv_if_lt (tgt := 65) hx hb dX3_settle_41 (by decide) (by omega) (fun c41 => ?_) (fun c41 => ?_)
    · refine jv_iconst hx hb dX3_settle_65 ?_
      refine lv_istore_n (lv' := [(2, .int (jI (0))), (0, .ref (ad 0)), (1, .int (jI (mg)))]) hx hb dX3_settle_66 rfl hl (by decide) rfl (fun ls hl => ?_)
      exfalso
      obtain ⟨q, q1, q2, q3⟩ := hE
      exact hnr q (by omega) q1 q2 q3
    · refine lv_aload_n hx hb dX3_settle_44 rfl (lv_at hl 0 rfl) ?_
      refine va_get (D := D) (ci := 3) (v := .ref (ad 1)) (C := RX3) (T := TX3) (N := 3) hx hb hts (fun w h => List.mem_cons_of_mem _ (uw_X3 w h)) hown hK (j_P1 hx0) 0 rfl rfl 0 (by decide) (hts _ (List.mem_cons_of_mem _ kw_121)) (fun _ h9 => h9) rfl dX3_settle_45 ?_
      refine lv_iload_n hx hb dX3_settle_48 rfl (lv_at hl 2 rfl) ?_
      refine jv_aldq (i := (bN z - 1 - m9)) hx hb hK hx1 2 rfl (by omega) (by omega) (by decide) dX3_settle_49 ?_
      refine lv_iload_n hx hb dX3_settle_50 rfl (lv_at hl 1 rfl) ?_
      cases hU : bU z (bN z - 1 - m9) with
      | none =>
        refine b_call (va_runS (As := [.ref (ad (2 + 12 * (bN z - 1 - m9))), .int (jI (mg))]) (rest := []) ⟨hx, hb, hml, hown, hts⟩ (c_tryOptions0 l D g ad z r1 f1 hz hj (bN z - 1 - m9) mg (by omega) hU hmg) (cwS 2 hts (gd_S kw_357 kw_358 kw_12 kcX3_tryOptions) rfl rfl rfl (by decide +kernel) ⟨Nat.le_of_ble_eq_true rfl, Nat.le_of_ble_eq_true rfl⟩) (pu_preS hPic hK) rfl rfl hl.1 rfl (lv_room (Nat.le_of_ble_eq_true rfl)) dX3_settle_51 ⟨Nat.zero_le _, Nat.zero_le _⟩) hT0 (fun H locs rl ff hPh hPic hT0 => ?_)
        refine W.eq (g2 := F0 m 54 ls [.int (jI (bI (!decide (cFit (fun j => !r1 (bN z - 1 - m9) j) (bO z (bN z - 1 - m9)) 0 = -1))))]) rfl ?_
        refine jv_if_ne (tgt := 59) hx hb dX3_settle_54 (by decide) (bI_rng _) (fun c54 => ?_) (fun c54 => ?_)
        · have c54 := bI_tr c54
          have c54 : ¬ (cFit (fun j => !r1 (bN z - 1 - m9) j) (bO z (bN z - 1 - m9)) 0 = -1) := by simpa using c54
          refine lv_iinc (v := jI (((bN z : Int) - 1 - (m9 : Int)) + (-1))) (lv' := [(2, .int (jI (((bN z : Int) - 1 - (m9 : Int)) + (-1)))), (0, .ref (ad 0)), (1, .int (jI (mg)))]) hx hb dX3_settle_59 hl (k := 2) rfl (jI_add _ _) (by decide) rfl (fun ls hl => ?_)
          refine lv_goto (tgt := 40) hx hb dX3_settle_62 (by decide) ?_
          obtain ⟨k1, k2, k3⟩ := hPh
          exact ih (m9 + 1, rl, ff) H _ ls ⟨⟨by dsimp only; omega, fun q hq k hk => by dsimp only; rw [k1, hr9 q hq k hk, cRul_s0 hU], fun q h1 h2 => by dsimp only at h1 ⊢; by_cases hq : q = bN z - 1 - m9; (· subst hq; exact ⟨fun _ => k3.trans (cTry0 hz (by omega) hr9), fun v hv => (by rw [hU] at hv; cases hv)⟩); (· have h9 := hh q (by omega) h2; exact ⟨fun h => (by rw [k2 q hq]; exact h9.1 h), fun v hv k hk => (by rw [k2 q hq]; exact h9.2 v hv k hk)⟩), fun q h1 h2 h3 => by dsimp only at h1; by_cases hq : q = bN z - 1 - m9; (· subst hq; rw [← cTry0 hz (by omega) hr9]; exact c54); (· exact hnr q (by omega) h2 h3), hPic, hT0⟩, by dsimp only; rw [show (bN z : Int) - 1 - ((m9 + 1 : Nat) : Int) = (bN z : Int) - 1 - (m9 : Int) + (-1) by omega]; exact lv_sub hl [1, 2, 0] rfl⟩ (by dsimp only; omega)
        · have c54 := bI_fa c54
          have c54 : cFit (fun j => !r1 (bN z - 1 - m9) j) (bO z (bN z - 1 - m9)) 0 = -1 := by simpa using c54
          refine jv_iconst hx hb dX3_settle_57 ?_
          exact b_zret hx hb hr hlocks dX3_settle_58 trivial hPic hT0 (by rfl)
      | some u =>
        have hul := hz.2.2.2 (bN z - 1 - m9) u (by omega) hU
        refine b_call (va_runS (As := [.ref (ad (2 + 12 * (bN z - 1 - m9))), .int (jI (mg))]) (rest := []) ⟨hx, hb, hml, hown, hts⟩ (c_tryOptions1 l D g ad z r1 f1 hz hj (bN z - 1 - m9) u mg (by omega) hul hU hmg) (cwS 2 hts (gd_S kw_357 kw_358 kw_12 kcX3_tryOptions) rfl rfl rfl (by decide +kernel) ⟨Nat.le_of_ble_eq_true rfl, Nat.le_of_ble_eq_true rfl⟩) (pu_preS hPic hK) rfl rfl hl.1 rfl (lv_room (Nat.le_of_ble_eq_true rfl)) dX3_settle_51 ⟨Nat.zero_le _, Nat.zero_le _⟩) hT0 (fun H locs rl ff hPh hPic hT0 => ?_)
        refine W.eq (g2 := F0 m 54 ls [.int (jI (bI true))]) rfl ?_
        refine jv_if_ne (tgt := 59) hx hb dX3_settle_54 (by decide) (bI_rng _) (fun c54 => ?_) (fun c54 => ?_)
        · refine lv_iinc (v := jI (((bN z : Int) - 1 - (m9 : Int)) + (-1))) (lv' := [(2, .int (jI (((bN z : Int) - 1 - (m9 : Int)) + (-1)))), (0, .ref (ad 0)), (1, .int (jI (mg)))]) hx hb dX3_settle_59 hl (k := 2) rfl (jI_add _ _) (by decide) rfl (fun ls hl => ?_)
          refine lv_goto (tgt := 40) hx hb dX3_settle_62 (by decide) ?_
          obtain ⟨k1, k2, k3, k4⟩ := hPh
          exact ih (m9 + 1, rl, ff) H _ ls ⟨⟨by dsimp only; omega, cTry1r hz (by omega) hU hr9 k1 k2, fun q h1 h2 => by dsimp only at h1 ⊢; by_cases hq : q = bN z - 1 - m9; (· subst hq; exact ⟨fun h => (by rw [hU] at h; cases h), fun v hv k hk => (by rw [hU] at hv; cases hv; rw [k4 k hk]; exact cTry1 hz (by omega) hU hr9)⟩); (· have h9 := hh q (by omega) h2; exact ⟨fun h => (by rw [k3 q hq]; exact h9.1 h), fun v hv k hk => (by rw [k3 q hq]; exact h9.2 v hv k hk)⟩), fun q h1 h2 h3 => by dsimp only at h1; by_cases hq : q = bN z - 1 - m9; (· subst hq; rw [hU] at h3; cases h3); (· exact hnr q (by omega) h2 h3), hPic, hT0⟩, by dsimp only; rw [show (bN z : Int) - 1 - ((m9 + 1 : Nat) : Int) = (bN z : Int) - 1 - (m9 : Int) + (-1) by omega]; exact lv_sub hl [1, 2, 0] rfl⟩ (by dsimp only; omega)
        · exact absurd c54 (by decide)
  · have hx0 : va_at D vwCl (ad 0, .inr (3, [.ref (ad 1), .int (jI ((bN z : Int))), .int (jI (bV z))])) H := hPic 0 (by omega)
    have hx1 : va_at D vwCl (ad 1, .inl (g 2, 8, .inr (.inr (.inr (.inr (fun j => some (ad (2 + 12 * j)))))))) H := hPic 1 (by omega)
    have hd0_i : va_at D vwCl (ad (2 + 12 * i), .inr (1, [.int (jI ((i : Int))), .ref (ad (2 + 12 * i + 1)), .ref (ad (2 + 12 * i + 5)), .ref (ad (2 + 12 * i + 10)), .ref (ad (2 + 12 * i + 11)), va_rf ((bU z i).map (fun u => ad (2 + 12 * u))), .int (jI ((bO z i : Int))), .int (jI ((bC z i : Int))), .int (jI (bZ z i))])) H := bW_at hPic (i := i) (by omega) 0 (by omega)
    refine lv_aload_n hx hb dX3_settle_18 rfl (lv_at hl 0 rfl) ?_
    refine va_get (D := D) (ci := 3) (v := .ref (ad 1)) (C := RX3) (T := TX3) (N := 3) hx hb hts (fun w h => List.mem_cons_of_mem _ (uw_X3 w h)) hown hK (j_P1 hx0) 0 rfl rfl 0 (by decide) (hts _ (List.mem_cons_of_mem _ kw_121)) (fun _ h9 => h9) rfl dX3_settle_19 ?_
    refine lv_iload_n hx hb dX3_settle_22 rfl (lv_at hl 2 rfl) ?_
    refine jv_aldq (i := i) hx hb hK hx1 2 rfl (by omega) (by omega) (by decide) dX3_settle_23 ?_
    refine b_call (va_runV (As := []) (rest := []) ⟨hx, hb, hml, hown, hts⟩ (c_forgetTries l D g ad z r1 f1 hz hj i (by omega)) (cwV 0 hts (gd_V kw_353 kw_354 kw_355 kw_13 kcX1_forgetTries) rfl rfl rfl (by decide +kernel) ⟨Nat.le_of_ble_eq_true rfl, Nat.le_of_ble_eq_true rfl⟩) (pu_preV hPic hK rfl hd0_i) rfl rfl hl.1 rfl (lv_room (Nat.le_of_ble_eq_true rfl)) dX3_settle_24 ⟨Nat.zero_le _, Nat.zero_le _⟩) hT0 (fun H locs rl ff hPh hPic hT0 => ?_)
    refine W.eq (g2 := F0 m 27 ls []) rfl ?_
    refine lv_iinc (v := jI ((i : Int) + 1)) (lv' := [(2, .int (jI ((i : Int) + 1))), (0, .ref (ad 0)), (1, .int (jI (mg)))]) hx hb dX3_settle_27 hl (k := 2) rfl (jI_add _ _) (by decide) rfl (fun ls hl => ?_)
    refine lv_goto (tgt := 10) hx hb dX3_settle_30 (by decide) ?_
    obtain ⟨-, hro, hrf⟩ := hPh
    exact ih (i + 1, rl, ff) H _ ls ⟨⟨by dsimp only; omega, fun q hq k hk => by dsimp only at hq ⊢; by_cases hqi : q = i; (· subst hqi; exact hrf k hk); (· rw [hro q hqi]; exact hrk q (by omega) k hk), hPic, hT0⟩, lv_sub hl [1, 2, 0] rfl⟩ (by dsimp only; omega)
