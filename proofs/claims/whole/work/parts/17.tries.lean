theorem jUp_row {f : Nat → Nat → Int} {i k q : Nat} {F : Nat → Int} (hq : q < k + 1) (h : ∀ q, q < k → f i q = F q) : jUp f i (jUp (f i) k (F k)) i q = F q := by
  by_cases hk : q = k
  · subst hk
    exact jUp2_s _ _ _ _
  · rw [jUp2_n (Or.inr hk)]
    exact h q (by omega)
set_option maxHeartbeats 4000000 in
set_option maxRecDepth 100000 in
theorem c_forgetTries (l : Launch) (D : va_G) (g : Nat → ClassId) (ad : Nat → Nat) (z : bSt) (rl : Nat → Nat → Bool) (ff : Nat → Nat → Int) (hz : bOK z) (hj : bInj ad) (i : Nat) (hi : i < 8) : Met l yX1_forgetTries wsX1_forgetTries ({ frames := 0, cells := 0, slots := 0, locals := 0 }) (pu_Pc [.ref (ad (2 + 12 * i))] D vwCl (ty9 g) (fun H => bW D g ad z rl ff H)) (bQ D g ad none (z) (fun r f => f = ff ∧ (∀ i2, i2 ≠ i → r i2 = rl i2) ∧ ∀ k, k < 4 → r i k = false)) 0 0 (bFr ad) := by
  refine Met.ofW (cc := cX1_forgetTries) (maxL := 2) (ret := none) (by decide) rfl ?_
  intro p e s m args below meth c s₁ B hml hv
  obtain ⟨rfl, hPic, hK⟩ := hv
  have hx := B.exec
  have hb := B.bytes
  have hr := B.returns
  have hts := atoms_spec (ws := wsX1_forgetTries) B.pre
  have hown : s.vm.findClass RX1 = some m.cls := findClass_of_methodNamed B.named
  have hlocks := B.notSynchronized
  have hl := lv_entry ([.ref (ad (2 + 12 * i))]) (n := 2) (Nat.le_of_ble_eq_true rfl)
  rw [lg_entry_eq]
  generalize (lg_sl ([.ref (ad (2 + 12 * i))]) ++ List.replicate (2 - (lg_sl ([.ref (ad (2 + 12 * i))])).length) Slot.unset).toArray = ls at hl ⊢
  have hl : lv_has ls 2 [(0, .ref (ad (2 + 12 * i)))] := hl
  have hT0 : bTo ad s.heap s.heap [] := bTo.rf
  refine jv_iconst hx hb dX1_forgetTries_0 ?_
  refine lv_istore_n (lv' := [(1, .int (jI (0))), (0, .ref (ad (2 + 12 * i)))]) hx hb dX1_forgetTries_1 rfl hl (by decide) rfl (fun ls hl => ?_)
  refine jw_loop3 (X := Nat × (Nat → Nat → Bool)) (fun x => 4 - x.1) (fun x H L ls => (x.1 ≤ 4 ∧ (∀ i2, i2 ≠ i → x.2 i2 = rl i2) ∧ (∀ k, k < x.1 → x.2 i k = false) ∧ bW D g ad z x.2 ff H ∧ bTo ad s.heap H L) ∧ lv_has ls 2 [(0, .ref (ad (2 + 12 * i))), (1, .int (jI ((x.1 : Int))))]) ?_ (0, rl) s.heap [] ls ⟨⟨by omega, fun _ _ => rfl, fun k hk => absurd hk (Nat.not_lt_zero k), hPic, hT0⟩, lv_sub hl [1, 0] rfl⟩
  intro x H L ls hinv ih
  obtain ⟨j, r1⟩ := x
  obtain ⟨⟨h4, ho, hf, hPic, hT0⟩, hl⟩ := hinv
  dsimp only at h4 ho hf hPic
  have hl : lv_has ls 2 [(0, .ref (ad (2 + 12 * i))), (1, .int (jI ((j : Int))))] := hl
  have hd0_i : va_at D vwCl (ad (2 + 12 * i), .inr (1, [.int (jI ((i : Int))), .ref (ad (2 + 12 * i + 1)), .ref (ad (2 + 12 * i + 5)), .ref (ad (2 + 12 * i + 10)), .ref (ad (2 + 12 * i + 11)), va_rf ((bU z i).map (fun u => ad (2 + 12 * u))), .int (jI ((bO z i : Int))), .int (jI ((bC z i : Int))), .int (jI (bZ z i))])) H := bW_at hPic (i := i) hi 0 (by omega)
  have hd10_i : va_at D vwCl (ad (2 + 12 * i + 10), .inl (g 1, 4, .inl (fun j => jI (bI (r1 i j))))) H := bW_at hPic (i := i) hi 10 (by omega)
  refine lv_iload_n hx hb dX1_forgetTries_2 rfl (lv_at hl 1 rfl) ?_
  refine jv_iconst hx hb dX1_forgetTries_3 ?_
  refine jv_icmp_ge (tgt := 20) hx hb dX1_forgetTries_4 (by decide) (by omega) (by omega) (fun c4 => ?_) (fun c4 => ?_)
  · exact b_vret hx hb hr hlocks dX1_forgetTries_20 ⟨rfl, ho, fun k hk => hf k (by omega)⟩ hPic hT0
  · refine lv_aload_n hx hb dX1_forgetTries_7 rfl (lv_at hl 0 rfl) ?_
    refine va_get (D := D) (ci := 1) (v := .ref (ad (2 + 12 * i + 10))) (C := RX1) (T := TX1) (N := 9) hx hb hts (fun w h => List.mem_cons_of_mem _ (uw_X1 w h)) hown hK (j_P1 hd0_i) 0 rfl rfl 3 (by decide) (hts _ (List.mem_cons_of_mem _ kw_90)) (fun _ h9 => h9) rfl dX1_forgetTries_8 ?_
    refine lv_iload_n hx hb dX1_forgetTries_11 rfl (lv_at hl 1 rfl) ?_
    refine jv_iconst hx hb dX1_forgetTries_12 ?_
    refine jv_zast (w := false) (i := j) hx hb hK hd10_i 1 rfl (by omega) (by omega) (by decide) rfl dX1_forgetTries_13 (fun H f9 hn9 hz9 oq9 => ?_)
    have hPic := bX_rl hj hPic (rl1 := (jUp r1 i (jUp (r1 i) j false))) (i := i) hi (fun i2 h2 => jUp_n h2) (jUp_s _ _ _) oq9 hn9
    have hT0 := hT0.put (2 + 12 * i + 10) (by omega) hz9 oq9 (f := f9)
    refine lv_iinc (v := jI ((j : Int) + 1)) (lv' := [(1, .int (jI ((j : Int) + 1))), (0, .ref (ad (2 + 12 * i)))]) hx hb dX1_forgetTries_14 hl (k := 1) rfl (jI_add _ _) (by decide) rfl (fun ls hl => ?_)
    refine lv_goto (tgt := 2) hx hb dX1_forgetTries_17 (by decide) ?_
    exact ih (j + 1, (jUp r1 i (jUp (r1 i) j false))) H _ ls ⟨⟨by dsimp only; omega, fun i2 h2 => (jUp_n h2).trans (ho i2 h2), fun k hk => jUp_two (fun q => by dsimp only at hk; exact hf k (by omega)), hPic, hT0⟩, lv_sub hl [1, 0] rfl⟩ (by dsimp only; omega)
set_option maxHeartbeats 4000000 in
set_option maxRecDepth 100000 in
theorem c_tryOptions0 (l : Launch) (D : va_G) (g : Nat → ClassId) (ad : Nat → Nat) (z : bSt) (rl : Nat → Nat → Bool) (ff : Nat → Nat → Int) (hz : bOK z) (hj : bInj ad) (i : Nat) (mg : Int) (hi : i < 8) (hU : bU z i = none) (hmg : 0 ≤ mg ∧ mg ≤ 10000) : Met l yX3_tryOptions wsX3_tryOptions ({ frames := 5, cells := 0, slots := 0, locals := 136 }) (pu_Pc [.ref (ad (2 + 12 * i)), .int (jI (mg))] D vwCl (ty9 g) (fun H => bW D g ad z rl ff H)) (bQ D g ad (some (.int (jI (bI (!decide ((cFit (fun j => !rl i j) (bO z i) 0) = -1)))))) (z) (fun r f => r = rl ∧ (∀ i2, i2 ≠ i → f i2 = ff i2) ∧ f i 0 = (cFit (fun j => !rl i j) (bO z i) 0))) 0 0 (bFr ad) := by
  refine Met.ofW (cc := cX3_tryOptions) (maxL := 4) (ret := some .boolean) (by decide) rfl ?_
  intro p e s m args below meth c s₁ B hml hv
  obtain ⟨rfl, hPic, hK⟩ := hv
  have hx := B.exec
  have hb := B.bytes
  have hr := B.returns
  have hts := atoms_spec (ws := wsX3_tryOptions) B.pre
  have hown : s.vm.findClass RX3 = some m.cls := findClass_of_methodNamed B.named
  have hlocks := B.notSynchronized
  have hd0_i : va_at D vwCl (ad (2 + 12 * i), .inr (1, [.int (jI ((i : Int))), .ref (ad (2 + 12 * i + 1)), .ref (ad (2 + 12 * i + 5)), .ref (ad (2 + 12 * i + 10)), .ref (ad (2 + 12 * i + 11)), va_rf ((bU z i).map (fun u => ad (2 + 12 * u))), .int (jI ((bO z i : Int))), .int (jI ((bC z i : Int))), .int (jI (bZ z i))])) s.heap := bW_at hPic (i := i) hi 0 (by omega)
  have hd11_i : va_at D vwCl (ad (2 + 12 * i + 11), .inl (g 0, 4, .inl (fun j => jI (ff i j)))) s.heap := bW_at hPic (i := i) hi 11 (by omega)
  rw [hU] at hd0_i
  have rF := cFit_rng (fun j => !rl i j) (bO z i)
  have fi := hz.2.2.1 i hi
  have hl := lv_entry ([.ref (ad (2 + 12 * i)), .int (jI (mg))]) (n := 4) (Nat.le_of_ble_eq_true rfl)
  rw [lg_entry_eq]
  generalize (lg_sl ([.ref (ad (2 + 12 * i)), .int (jI (mg))]) ++ List.replicate (4 - (lg_sl ([.ref (ad (2 + 12 * i)), .int (jI (mg))])).length) Slot.unset).toArray = ls at hl ⊢
  have hl : lv_has ls 4 [(0, .ref (ad (2 + 12 * i))), (1, .int (jI (mg)))] := hl
  have hT0 : bTo ad s.heap s.heap [] := bTo.rf
  refine lv_aload_n hx hb dX3_tryOptions_0 rfl (lv_at hl 0 rfl) ?_
  refine va_get (D := D) (ci := 1) (v := .null) (C := RX1) (T := TX1) (N := 9) hx hb hts (fun w h => List.mem_cons_of_mem _ (uw_X1 w h)) hown hK (j_P1 hd0_i) 0 rfl rfl 5 (by decide) (hts _ (List.mem_cons_of_mem _ kw_95)) (fun _ h9 => h9) rfl dX3_tryOptions_1 ?_
  refine lv_astore_nN (lv' := [(2, .null), (0, .ref (ad (2 + 12 * i))), (1, .int (jI (mg)))]) hx hb dX3_tryOptions_4 rfl hl (by decide) rfl (fun ls hl => ?_)
  refine lv_aload_nN hx hb dX3_tryOptions_5 rfl (lv_at hl 0 rfl) ?_
  refine lv_ifnonnullN hx hb dX3_tryOptions_6 ?_
  refine lv_aload_n hx hb dX3_tryOptions_9 rfl (lv_at hl 1 rfl) ?_
  refine va_get (D := D) (ci := 1) (v := .ref (ad (2 + 12 * i + 11))) (C := RX1) (T := TX1) (N := 9) hx hb hts (fun w h => List.mem_cons_of_mem _ (uw_X1 w h)) hown hK (j_P1 hd0_i) 0 rfl rfl 4 (by decide) (hts _ (List.mem_cons_of_mem _ kw_93)) (fun _ h9 => h9) rfl dX3_tryOptions_10 ?_
  refine jv_iconst hx hb dX3_tryOptions_13 ?_
  refine lv_aload_n hx hb dX3_tryOptions_14 rfl (lv_at hl 1 rfl) ?_
  refine lv_null hx hb dX3_tryOptions_15 ?_
  refine lv_iload_n hx hb dX3_tryOptions_16 rfl (lv_at hl 2 rfl) ?_
  refine pu_call1 (va_runS (As := [.ref (ad (2 + 12 * i)), .null, .int (jI (mg))]) (rest := [.int (jI (0)), .ref (ad (2 + 12 * i + 11))]) ⟨hx, hb, hml, hown, hts⟩ (c_firstFitting0 l D g ad z rl ff hz i mg hi hmg) (cwS 3 hts (gd_S kw_360 kw_361 kw_12 kcX3_firstFitting) rfl rfl rfl (by decide +kernel) ⟨Nat.le_of_ble_eq_true rfl, Nat.le_of_ble_eq_true rfl⟩) (pu_preS hPic hK) rfl rfl hl.1 rfl (lv_room (Nat.le_of_ble_eq_true rfl)) dX3_tryOptions_17 ⟨Nat.zero_le _, Nat.zero_le _⟩) ?_
  refine jv_iast (i := 0) hx hb hK hd11_i 0 rfl (by omega) (by omega) (by decide) dX3_tryOptions_20 (fun H f9 hn9 hz9 oq9 => ?_)
  have hPic := bX_ff hj hPic (ff1 := (jUp ff i (jUp (ff i) 0 (cFit (fun j => !rl i j) (bO z i) 0)))) (i := i) hi (fun i2 h2 => jUp_n h2) (jUp_s _ _ _) oq9 hn9
  have hT0 := hT0.put (2 + 12 * i + 11) (by omega) hz9 oq9 (f := f9)
  have hd0_i : va_at D vwCl (ad (2 + 12 * i), .inr (1, [.int (jI ((i : Int))), .ref (ad (2 + 12 * i + 1)), .ref (ad (2 + 12 * i + 5)), .ref (ad (2 + 12 * i + 10)), .ref (ad (2 + 12 * i + 11)), va_rf ((bU z i).map (fun u => ad (2 + 12 * u))), .int (jI ((bO z i : Int))), .int (jI ((bC z i : Int))), .int (jI (bZ z i))])) H := bW_at hPic (i := i) hi 0 (by omega)
  have hd11_i : va_at D vwCl (ad (2 + 12 * i + 11), .inl (g 0, 4, .inl (fun j => jI ((jUp ff i (jUp (ff i) 0 (cFit (fun j => !rl i j) (bO z i) 0))) i j)))) H := bW_at hPic (i := i) hi 11 (by omega)
  rw [hU] at hd0_i
  refine lv_aload_n hx hb dX3_tryOptions_21 rfl (lv_at hl 1 rfl) ?_
  refine va_get (D := D) (ci := 1) (v := .ref (ad (2 + 12 * i + 11))) (C := RX1) (T := TX1) (N := 9) hx hb hts (fun w h => List.mem_cons_of_mem _ (uw_X1 w h)) hown hK (j_P1 hd0_i) 0 rfl rfl 4 (by decide) (hts _ (List.mem_cons_of_mem _ kw_93)) (fun _ h9 => h9) rfl dX3_tryOptions_22 ?_
  refine jv_iconst hx hb dX3_tryOptions_25 ?_
  refine jv_iald (i := 0) hx hb hK hd11_i 0 rfl (by omega) (by omega) (by decide) dX3_tryOptions_26 ?_
  rw [jUp2_s]
  refine jv_iconst hx hb dX3_tryOptions_27 ?_
  refine jv_icmp_eq (tgt := 35) hx hb dX3_tryOptions_28 (by decide) (by omega) (by omega) (fun c28 => ?_) (fun c28 => ?_)
  · refine jv_iconst hx hb dX3_tryOptions_35 ?_
    exact b_zret hx hb hr hlocks dX3_tryOptions_36 ⟨rfl, fun i2 h2 => jUp_n h2, jUp2_s _ _ _ _⟩ hPic hT0 (by rw [c28]; rfl)
  · refine jv_iconst hx hb dX3_tryOptions_31 ?_
    refine lv_goto (tgt := 36) hx hb dX3_tryOptions_32 (by decide) ?_
    exact b_zret hx hb hr hlocks dX3_tryOptions_36 ⟨rfl, fun i2 h2 => jUp_n h2, jUp2_s _ _ _ _⟩ hPic hT0 (by rw [decide_eq_false c28]; rfl)
set_option maxHeartbeats 4000000 in
set_option maxRecDepth 100000 in
theorem c_tryOptions1 (l : Launch) (D : va_G) (g : Nat → ClassId) (ad : Nat → Nat) (z : bSt) (rl : Nat → Nat → Bool) (ff : Nat → Nat → Int) (hz : bOK z) (hj : bInj ad) (i u : Nat) (mg : Int) (hi : i < 8) (hui : u < i) (hU : bU z i = some u) (hmg : 0 ≤ mg ∧ mg ≤ 10000) : Met l yX3_tryOptions wsX3_tryOptions ({ frames := 5, cells := 0, slots := 0, locals := 136 }) (pu_Pc [.ref (ad (2 + 12 * i)), .int (jI (mg))] D vwCl (ty9 g) (fun H => bW D g ad z rl ff H)) (bQ D g ad (some (.int (jI (bI true)))) (z) (fun r f => (∀ i2, i2 ≠ u → r i2 = rl i2) ∧ (∀ q, q < 4 → r u q = (rl u q || (decide (q < bO z u) && decide ((cFit (fun j => !rl i j && okb z mg i j u q) (bO z i) 0) = -1)))) ∧ (∀ i2, i2 ≠ i → f i2 = ff i2) ∧ ∀ q, q < bO z u → f i q = (cFit (fun j => !rl i j && okb z mg i j u q) (bO z i) 0))) 0 0 (bFr ad) := by
  refine Met.ofW (cc := cX3_tryOptions) (maxL := 4) (ret := some .boolean) (by decide) rfl ?_
  intro p e s m args below meth c s₁ B hml hv
  obtain ⟨rfl, hPic, hK⟩ := hv
  have hx := B.exec
  have hb := B.bytes
  have hr := B.returns
  have hts := atoms_spec (ws := wsX3_tryOptions) B.pre
  have hown : s.vm.findClass RX3 = some m.cls := findClass_of_methodNamed B.named
  have hlocks := B.notSynchronized
  have hd0_i : va_at D vwCl (ad (2 + 12 * i), .inr (1, [.int (jI ((i : Int))), .ref (ad (2 + 12 * i + 1)), .ref (ad (2 + 12 * i + 5)), .ref (ad (2 + 12 * i + 10)), .ref (ad (2 + 12 * i + 11)), va_rf ((bU z i).map (fun u => ad (2 + 12 * u))), .int (jI ((bO z i : Int))), .int (jI ((bC z i : Int))), .int (jI (bZ z i))])) s.heap := bW_at hPic (i := i) hi 0 (by omega)
  have hd11_i : va_at D vwCl (ad (2 + 12 * i + 11), .inl (g 0, 4, .inl (fun j => jI (ff i j)))) s.heap := bW_at hPic (i := i) hi 11 (by omega)
  have hd0_u : va_at D vwCl (ad (2 + 12 * u), .inr (1, [.int (jI ((u : Int))), .ref (ad (2 + 12 * u + 1)), .ref (ad (2 + 12 * u + 5)), .ref (ad (2 + 12 * u + 10)), .ref (ad (2 + 12 * u + 11)), va_rf ((bU z u).map (fun u => ad (2 + 12 * u))), .int (jI ((bO z u : Int))), .int (jI ((bC z u : Int))), .int (jI (bZ z u))])) s.heap := bW_at hPic (i := u) (by omega) 0 (by omega)
  have hd5_u : va_at D vwCl (ad (2 + 12 * u + 5), .inl (g 3, 4, .inr (.inr (.inr (.inr (fun j => some (ad (2 + 12 * u + 6 + j)))))))) s.heap := bW_at hPic (i := u) (by omega) 5 (by omega)
  have hd10_u : va_at D vwCl (ad (2 + 12 * u + 10), .inl (g 1, 4, .inl (fun j => jI (bI (rl u j))))) s.heap := bW_at hPic (i := u) (by omega) 10 (by omega)
  rw [hU] at hd0_i
  have fi := hz.2.2.1 i hi
  have fu := hz.2.2.1 u (by omega)
  have hl := lv_entry ([.ref (ad (2 + 12 * i)), .int (jI (mg))]) (n := 4) (Nat.le_of_ble_eq_true rfl)
  rw [lg_entry_eq]
  generalize (lg_sl ([.ref (ad (2 + 12 * i)), .int (jI (mg))]) ++ List.replicate (4 - (lg_sl ([.ref (ad (2 + 12 * i)), .int (jI (mg))])).length) Slot.unset).toArray = ls at hl ⊢
  have hl : lv_has ls 4 [(0, .ref (ad (2 + 12 * i))), (1, .int (jI (mg)))] := hl
  have hT0 : bTo ad s.heap s.heap [] := bTo.rf
  refine lv_aload_n hx hb dX3_tryOptions_0 rfl (lv_at hl 0 rfl) ?_
  refine va_get (D := D) (ci := 1) (v := .ref (ad (2 + 12 * u))) (C := RX1) (T := TX1) (N := 9) hx hb hts (fun w h => List.mem_cons_of_mem _ (uw_X1 w h)) hown hK (j_P1 hd0_i) 0 rfl rfl 5 (by decide) (hts _ (List.mem_cons_of_mem _ kw_95)) (fun _ h9 => h9) rfl dX3_tryOptions_1 ?_
  refine lv_astore_n (lv' := [(2, .ref (ad (2 + 12 * u))), (0, .ref (ad (2 + 12 * i))), (1, .int (jI (mg)))]) hx hb dX3_tryOptions_4 rfl hl (by decide) rfl (fun ls hl => ?_)
  refine lv_aload_n hx hb dX3_tryOptions_5 rfl (lv_at hl 0 rfl) ?_
  refine lv_ifnonnull (tgt := 37) hx hb dX3_tryOptions_6 (by decide) ?_
  refine jv_iconst hx hb dX3_tryOptions_37 ?_
  refine lv_istore_n (lv' := [(3, .int (jI (0))), (2, .ref (ad (2 + 12 * u))), (0, .ref (ad (2 + 12 * i))), (1, .int (jI (mg)))]) hx hb dX3_tryOptions_38 rfl hl (by decide) rfl (fun ls hl => ?_)
  refine jw_loop3 (X := Nat × (Nat → Nat → Bool) × (Nat → Nat → Int)) (fun x => bO z u - x.1) (fun x H L ls => (x.1 ≤ bO z u ∧ (∀ i2, i2 ≠ u → x.2.1 i2 = rl i2) ∧ (∀ q, q < 4 → x.2.1 u q = (rl u q || (decide (q < x.1) && decide ((cFit (fun j => !rl i j && okb z mg i j u q) (bO z i) 0) = -1)))) ∧ (∀ i2, i2 ≠ i → x.2.2 i2 = ff i2) ∧ (∀ q, q < x.1 → x.2.2 i q = (cFit (fun j => !rl i j && okb z mg i j u q) (bO z i) 0)) ∧ bW D g ad z x.2.1 x.2.2 H ∧ bTo ad s.heap H L) ∧ lv_has ls 4 [(0, .ref (ad (2 + 12 * i))), (1, .int (jI (mg))), (2, .ref (ad (2 + 12 * u))), (3, .int (jI ((x.1 : Int))))]) ?_ (0, rl, ff) s.heap [] ls ⟨⟨Nat.zero_le _, fun _ _ => rfl, fun q hq => by simp, fun _ _ => rfl, fun q hq => absurd hq (Nat.not_lt_zero q), hPic, hT0⟩, lv_sub hl [2, 3, 1, 0] rfl⟩
  intro x H L ls hinv ih
  obtain ⟨k, r1, f1⟩ := x
  obtain ⟨⟨hk, ho, hru, hfo, hfk, hPic, hT0⟩, hl⟩ := hinv
  dsimp only at hk ho hru hfo hfk hPic
  have hl : lv_has ls 4 [(0, .ref (ad (2 + 12 * i))), (1, .int (jI (mg))), (2, .ref (ad (2 + 12 * u))), (3, .int (jI ((k : Int))))] := hl
  have hri : r1 i = rl i := ho i (by omega)
  have rF := cFit_rng (fun j => !rl i j && okb z mg i j u k) (bO z i)
  have hd0_i : va_at D vwCl (ad (2 + 12 * i), .inr (1, [.int (jI ((i : Int))), .ref (ad (2 + 12 * i + 1)), .ref (ad (2 + 12 * i + 5)), .ref (ad (2 + 12 * i + 10)), .ref (ad (2 + 12 * i + 11)), va_rf ((bU z i).map (fun u => ad (2 + 12 * u))), .int (jI ((bO z i : Int))), .int (jI ((bC z i : Int))), .int (jI (bZ z i))])) H := bW_at hPic (i := i) hi 0 (by omega)
  have hd11_i : va_at D vwCl (ad (2 + 12 * i + 11), .inl (g 0, 4, .inl (fun j => jI (f1 i j)))) H := bW_at hPic (i := i) hi 11 (by omega)
  have hd0_u : va_at D vwCl (ad (2 + 12 * u), .inr (1, [.int (jI ((u : Int))), .ref (ad (2 + 12 * u + 1)), .ref (ad (2 + 12 * u + 5)), .ref (ad (2 + 12 * u + 10)), .ref (ad (2 + 12 * u + 11)), va_rf ((bU z u).map (fun u => ad (2 + 12 * u))), .int (jI ((bO z u : Int))), .int (jI ((bC z u : Int))), .int (jI (bZ z u))])) H := bW_at hPic (i := u) (by omega) 0 (by omega)
  have hd5_u : va_at D vwCl (ad (2 + 12 * u + 5), .inl (g 3, 4, .inr (.inr (.inr (.inr (fun j => some (ad (2 + 12 * u + 6 + j)))))))) H := bW_at hPic (i := u) (by omega) 5 (by omega)
  have hd10_u : va_at D vwCl (ad (2 + 12 * u + 10), .inl (g 1, 4, .inl (fun j => jI (bI (r1 u j))))) H := bW_at hPic (i := u) (by omega) 10 (by omega)
  rw [hU] at hd0_i
  refine lv_iload_n hx hb dX3_tryOptions_39 rfl (lv_at hl 3 rfl) ?_
  refine lv_aload_n hx hb dX3_tryOptions_40 rfl (lv_at hl 2 rfl) ?_
  refine va_get (D := D) (ci := 1) (v := .int (jI ((bO z u : Int)))) (C := RX1) (T := TX1) (N := 9) hx hb hts (fun w h => List.mem_cons_of_mem _ (uw_X1 w h)) hown hK (j_P1 hd0_u) 0 rfl rfl 6 (by decide) (hts _ (List.mem_cons_of_mem _ kw_97)) (fun _ h9 => h9) rfl dX3_tryOptions_41 ?_
  refine jv_icmp_ge (tgt := 87) hx hb dX3_tryOptions_44 (by decide) (by omega) (by omega) (fun c44 => ?_) (fun c44 => ?_)
  · refine jv_iconst hx hb dX3_tryOptions_87 ?_
    exact b_zret hx hb hr hlocks dX3_tryOptions_88 ⟨ho, fun q hq => by rw [hru q hq, show k = bO z u by omega], hfo, fun q hq => hfk q (by omega)⟩ hPic hT0 (by rfl)
  · refine lv_aload_n hx hb dX3_tryOptions_47 rfl (lv_at hl 0 rfl) ?_
    refine va_get (D := D) (ci := 1) (v := .ref (ad (2 + 12 * i + 11))) (C := RX1) (T := TX1) (N := 9) hx hb hts (fun w h => List.mem_cons_of_mem _ (uw_X1 w h)) hown hK (j_P1 hd0_i) 0 rfl rfl 4 (by decide) (hts _ (List.mem_cons_of_mem _ kw_93)) (fun _ h9 => h9) rfl dX3_tryOptions_48 ?_
    refine lv_iload_n hx hb dX3_tryOptions_51 rfl (lv_at hl 3 rfl) ?_
    refine lv_aload_n hx hb dX3_tryOptions_52 rfl (lv_at hl 0 rfl) ?_
    refine lv_aload_n hx hb dX3_tryOptions_53 rfl (lv_at hl 2 rfl) ?_
    refine va_get (D := D) (ci := 1) (v := .ref (ad (2 + 12 * u + 5))) (C := RX1) (T := TX1) (N := 9) hx hb hts (fun w h => List.mem_cons_of_mem _ (uw_X1 w h)) hown hK (j_P1 hd0_u) 0 rfl rfl 2 (by decide) (hts _ (List.mem_cons_of_mem _ kw_89)) (fun _ h9 => h9) rfl dX3_tryOptions_54 ?_
    refine lv_iload_n hx hb dX3_tryOptions_57 rfl (lv_at hl 3 rfl) ?_
    refine jv_aldq (i := k) hx hb hK hd5_u 3 rfl (by omega) (by omega) (by decide) dX3_tryOptions_58 ?_
    refine lv_iload_n hx hb dX3_tryOptions_59 rfl (lv_at hl 1 rfl) ?_
    refine pu_call1 (va_runS (As := [.ref (ad (2 + 12 * i)), .ref (ad (2 + 12 * u + 6 + k)), .int (jI (mg))]) (rest := [.int (jI ((k : Int))), .ref (ad (2 + 12 * i + 11))]) ⟨hx, hb, hml, hown, hts⟩ (c_firstFitting1 l D g ad z r1 f1 hz i u k mg hi (by omega) (by omega) hmg) (cwS 3 hts (gd_S kw_360 kw_361 kw_12 kcX3_firstFitting) rfl rfl rfl (by decide +kernel) ⟨Nat.le_of_ble_eq_true rfl, Nat.le_of_ble_eq_true rfl⟩) (pu_preS hPic hK) rfl rfl hl.1 rfl (lv_room (Nat.le_of_ble_eq_true rfl)) dX3_tryOptions_60 ⟨Nat.zero_le _, Nat.zero_le _⟩) ?_
    rw [hri]
    refine jv_iast (i := k) hx hb hK hd11_i 0 rfl (by omega) (by omega) (by decide) dX3_tryOptions_63 (fun H f9 hn9 hz9 oq9 => ?_)
    have hPic := bX_ff hj hPic (ff1 := (jUp f1 i (jUp (f1 i) k (cFit (fun j => !rl i j && okb z mg i j u k) (bO z i) 0)))) (i := i) hi (fun i2 h2 => jUp_n h2) (jUp_s _ _ _) oq9 hn9
    have hT0 := hT0.put (2 + 12 * i + 11) (by omega) hz9 oq9 (f := f9)
    have hd0_i : va_at D vwCl (ad (2 + 12 * i), .inr (1, [.int (jI ((i : Int))), .ref (ad (2 + 12 * i + 1)), .ref (ad (2 + 12 * i + 5)), .ref (ad (2 + 12 * i + 10)), .ref (ad (2 + 12 * i + 11)), va_rf ((bU z i).map (fun u => ad (2 + 12 * u))), .int (jI ((bO z i : Int))), .int (jI ((bC z i : Int))), .int (jI (bZ z i))])) H := bW_at hPic (i := i) hi 0 (by omega)
    have hd11_i : va_at D vwCl (ad (2 + 12 * i + 11), .inl (g 0, 4, .inl (fun j => jI ((jUp f1 i (jUp (f1 i) k (cFit (fun j => !rl i j && okb z mg i j u k) (bO z i) 0))) i j)))) H := bW_at hPic (i := i) hi 11 (by omega)
    have hd0_u : va_at D vwCl (ad (2 + 12 * u), .inr (1, [.int (jI ((u : Int))), .ref (ad (2 + 12 * u + 1)), .ref (ad (2 + 12 * u + 5)), .ref (ad (2 + 12 * u + 10)), .ref (ad (2 + 12 * u + 11)), va_rf ((bU z u).map (fun u => ad (2 + 12 * u))), .int (jI ((bO z u : Int))), .int (jI ((bC z u : Int))), .int (jI (bZ z u))])) H := bW_at hPic (i := u) (by omega) 0 (by omega)
    have hd5_u : va_at D vwCl (ad (2 + 12 * u + 5), .inl (g 3, 4, .inr (.inr (.inr (.inr (fun j => some (ad (2 + 12 * u + 6 + j)))))))) H := bW_at hPic (i := u) (by omega) 5 (by omega)
    have hd10_u : va_at D vwCl (ad (2 + 12 * u + 10), .inl (g 1, 4, .inl (fun j => jI (bI (r1 u j))))) H := bW_at hPic (i := u) (by omega) 10 (by omega)
    rw [hU] at hd0_i
    refine lv_aload_n hx hb dX3_tryOptions_64 rfl (lv_at hl 0 rfl) ?_
    refine va_get (D := D) (ci := 1) (v := .ref (ad (2 + 12 * i + 11))) (C := RX1) (T := TX1) (N := 9) hx hb hts (fun w h => List.mem_cons_of_mem _ (uw_X1 w h)) hown hK (j_P1 hd0_i) 0 rfl rfl 4 (by decide) (hts _ (List.mem_cons_of_mem _ kw_93)) (fun _ h9 => h9) rfl dX3_tryOptions_65 ?_
    refine lv_iload_n hx hb dX3_tryOptions_68 rfl (lv_at hl 3 rfl) ?_
    refine jv_iald (i := k) hx hb hK hd11_i 0 rfl (by omega) (by omega) (by decide) dX3_tryOptions_69 ?_
    rw [jUp2_s]
    refine jv_iconst hx hb dX3_tryOptions_70 ?_
    refine jv_icmp_ne (tgt := 81) hx hb dX3_tryOptions_71 (by decide) (by omega) (by omega) (fun c71 => ?_) (fun c71 => ?_)
    · refine lv_iinc (v := jI ((k : Int) + 1)) (lv' := [(3, .int (jI ((k : Int) + 1))), (0, .ref (ad (2 + 12 * i))), (1, .int (jI (mg))), (2, .ref (ad (2 + 12 * u)))]) hx hb dX3_tryOptions_81 hl (k := 3) rfl (jI_add _ _) (by decide) rfl (fun ls hl => ?_)
      refine lv_goto (tgt := 39) hx hb dX3_tryOptions_84 (by decide) ?_
      exact ih (k + 1, r1, (jUp f1 i (jUp (f1 i) k (cFit (fun j => !rl i j && okb z mg i j u k) (bO z i) 0)))) H _ ls ⟨⟨by dsimp only; omega, fun i2 h2 => ho i2 h2, fun q hq => by dsimp only; rw [hru q hq]; exact cRow_no (F := fun q => (cFit (fun j => !rl i j && okb z mg i j u q) (bO z i) 0)) c71, fun i2 h2 => (jUp_n h2).trans (hfo i2 h2), fun q hq => jUp_row (F := fun q => (cFit (fun j => !rl i j && okb z mg i j u q) (bO z i) 0)) hq hfk, hPic, hT0⟩, lv_sub hl [1, 2, 3, 0] rfl⟩ (by dsimp only; omega)
    · refine lv_aload_n hx hb dX3_tryOptions_74 rfl (lv_at hl 2 rfl) ?_
      refine va_get (D := D) (ci := 1) (v := .ref (ad (2 + 12 * u + 10))) (C := RX1) (T := TX1) (N := 9) hx hb hts (fun w h => List.mem_cons_of_mem _ (uw_X1 w h)) hown hK (j_P1 hd0_u) 0 rfl rfl 3 (by decide) (hts _ (List.mem_cons_of_mem _ kw_91)) (fun _ h9 => h9) rfl dX3_tryOptions_75 ?_
      refine lv_iload_n hx hb dX3_tryOptions_78 rfl (lv_at hl 3 rfl) ?_
      refine jv_iconst hx hb dX3_tryOptions_79 ?_
      refine jv_zast (w := true) (i := k) hx hb hK hd10_u 1 rfl (by omega) (by omega) (by decide) rfl dX3_tryOptions_80 (fun H f9 hn9 hz9 oq9 => ?_)
      have hPic := bX_rl hj hPic (rl1 := (jUp r1 u (jUp (r1 u) k true))) (i := u) (by omega) (fun i2 h2 => jUp_n h2) (jUp_s _ _ _) oq9 hn9
      have hT0 := hT0.put (2 + 12 * u + 10) (by omega) hz9 oq9 (f := f9)
      refine lv_iinc (v := jI ((k : Int) + 1)) (lv' := [(3, .int (jI ((k : Int) + 1))), (0, .ref (ad (2 + 12 * i))), (1, .int (jI (mg))), (2, .ref (ad (2 + 12 * u)))]) hx hb dX3_tryOptions_81 hl (k := 3) rfl (jI_add _ _) (by decide) rfl (fun ls hl => ?_)
      refine lv_goto (tgt := 39) hx hb dX3_tryOptions_84 (by decide) ?_
      exact ih (k + 1, (jUp r1 u (jUp (r1 u) k true)), (jUp f1 i (jUp (f1 i) k (cFit (fun j => !rl i j && okb z mg i j u k) (bO z i) 0)))) H _ ls ⟨⟨by dsimp only; omega, fun i2 h2 => (jUp_n h2).trans (ho i2 h2), fun q hq => by dsimp only; exact cRow_yes (F := fun q => (cFit (fun j => !rl i j && okb z mg i j u q) (bO z i) 0)) c71 (hru q hq), fun i2 h2 => (jUp_n h2).trans (hfo i2 h2), fun q hq => jUp_row (F := fun q => (cFit (fun j => !rl i j && okb z mg i j u q) (bO z i) 0)) hq hfk, hPic, hT0⟩, lv_sub hl [1, 2, 3, 0] rfl⟩ (by dsimp only; omega)
