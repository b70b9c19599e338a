theorem dTr {B A1 : Nat → Nat → Int} {t : Nat → Nat} {k v e e' n : Nat} {w : Int} (hA : A1 = jUp B 12 (jUp (B 12) k w)) (hw : w = (v : Int)) (ht : ∀ i, i < e → i < n → B 12 i = (t i : Int)) (he : ∀ i, i < e' → i ≠ k → i < e) : ∀ i, i < e' → i < n → A1 12 i = ((jUp t k v i : Nat) : Int) := by
  intro i h1 h2
  rw [hA, jUp_s]
  by_cases h : i = k
  · rw [h, jUp_s, jUp_s, hw]
  · rw [jUp_n h, jUp_n h]
    exact ht i (he i h1 h) h2
theorem dTrR {z : bSt} {dv vo : Int} {B A1 : Nat → Nat → Int} {k a : Nat} {w : Int} (hA : A1 = jUp B a (jUp (B a) k w)) (ha : 10 < a) (hR : mR z dv vo B) : mR z dv vo A1 := mR_ext hR (fun b hb => by rw [hA, jUp_n (by omega)])
theorem dTrM {z : bSt} {mg : Int} {B A1 : Nat → Nat → Int} {k : Nat} {w : Int} (hA : A1 = jUp B 12 (jUp (B 12) k w)) (hM : mMem z mg (B 11)) : mMem z mg (A1 11) := by
  rw [hA, jUp_n (by decide)]
  exact hM
set_option maxRecDepth 20000 in
theorem kw_8 : (.selects RX4 yX4_fits yX4_fits : Cond) ∈ gAll := g_mem 8 rfl rfl
set_option maxRecDepth 20000 in
theorem kw_535 : (.methodLink RX4 86 yX4_fits : Cond) ∈ gAll := g_mem 535 rfl rfl
set_option maxRecDepth 20000 in
theorem kw_537 : (.instanceMethod yX4_fits : Cond) ∈ gAll := g_mem 537 rfl rfl
set_option maxHeartbeats 4000000 in
set_option maxRecDepth 100000 in
theorem k_settle0 (l : Launch) (D : va_G) (g : Nat → ClassId) (am : Nat → Nat) (cd dv vo ab be : Int) (AA : Nat → Nat → Int) (z : bSt) (hz : bOK z) (hR : mR z dv vo AA) (mg : Int) (hmg : 0 ≤ mg ∧ mg ≤ 10000) (hno : ∀ q, ¬ vRow (bN z) (bU z) (bO z) (okf z mg) q) (hj : mInj am) : Met l yX4_settle wsX4_settle ({ frames := 3, cells := 0, slots := 0, locals := 88 }) (pu_Pc [.ref (am 0), .int (jI (mg))] D vwCl (ty9 g) (fun H => mW D g am cd dv vo ab be AA H)) (mQ D g am (some (.int (jI (bI false)))) (fun c n v A _ _ => c = 0 ∧ mR z n v A)) 0 0 (mFr am) := by
  refine Met.ofW (cc := cX4_settle) (maxL := 4) (ret := some .boolean) (by decide) rfl ?_
  intro p e s m args below meth c s₁ B hml hv
  obtain ⟨rfl, hPic, hK⟩ := hv
  have hx := B.exec
  have hb := B.bytes
  have hr := B.returns
  have hts := atoms_spec (ws := wsX4_settle) B.pre
  have hown : s.vm.findClass RX4 = some m.cls := findClass_of_methodNamed B.named
  have hlocks := B.notSynchronized
  have hm0 := hPic.1
  have hm6 : va_at D vwCl (am 6, .inl (g 0, 8, .inl (fun j => jI (AA 6 j)))) s.heap := hPic.2 6 (by omega) (by omega)
  have hm9 : va_at D vwCl (am 9, .inl (g 0, 8, .inl (fun j => jI (AA 9 j)))) s.heap := hPic.2 9 (by omega) (by omega)
  have hm11 : va_at D vwCl (am 11, .inl (g 0, 128, .inl (fun j => jI (AA 11 j)))) s.heap := hPic.2 11 (by omega) (by omega)
  have hm12 : va_at D vwCl (am 12, .inl (g 0, 8, .inl (fun j => jI (AA 12 j)))) s.heap := hPic.2 12 (by omega) (by omega)
  have hdv := hR.1
  have hN := hz.1
  have hl := lv_entry ([.ref (am 0), .int (jI (mg))]) (n := 4) (Nat.le_of_ble_eq_true rfl)
  rw [lg_entry_eq]
  generalize (lg_sl ([.ref (am 0), .int (jI (mg))]) ++ List.replicate (4 - (lg_sl ([.ref (am 0), .int (jI (mg))])).length) Slot.unset).toArray = ls at hl ⊢
  have hl : lv_has ls 4 [(0, .ref (am 0)), (1, .int (jI (mg)))] := hl
  have hT0 : mTo am s.heap s.heap [] := mTo.rf
  refine lv_aload_n hx hb dX4_settle_0 rfl (lv_at hl 0 rfl) ?_
  refine lv_iload_n hx hb dX4_settle_1 rfl (lv_at hl 1 rfl) ?_
  refine jv_iconst hx hb dX4_settle_2 ?_
  refine jv_sipush hx hb dX4_settle_3 (by decide) ?_
  refine pu_call1 (va_runS (As := [.int (jI (mg)), .int (jI (0)), .int (jI (10000))]) (rest := [.ref (am 0)]) ⟨hx, hb, hml, hown, hts⟩ (k_in l D g mg 0 10000 (by omega) (by omega) (by omega)) (cwS 3 hts (gd_S kw_482 kw_483 kw_16 kcX4_in) rfl rfl rfl (by decide +kernel) ⟨Nat.le_of_ble_eq_true rfl, Nat.le_of_ble_eq_true rfl⟩) (pu_preS trivial hK) rfl rfl hl.1 rfl (lv_room (Nat.le_of_ble_eq_true rfl)) dX4_settle_6 ⟨Nat.zero_le _, Nat.zero_le _⟩) ?_
  refine jv_if_eq (tgt := 16) hx hb dX4_settle_9 (by decide) (bI_rng _) (fun c9 => ?_) (fun c9 => ?_)
  · exact absurd (bI_fa c9) (by rw [decide_eq_true (by omega)]; decide)
  · refine jv_iconst hx hb dX4_settle_12 ?_
    refine lv_goto (tgt := 17) hx hb dX4_settle_13 (by decide) ?_
    refine jv_put (D := D) (ci := 4) (v := .int (jI (0))) (ty := .int) (C := RX4) (T := TX4) (N := 17) hx hb hts (fun w h => List.mem_cons_of_mem _ (uw_X4 w h)) tyX4 tyX4_ok nmX4 hown hK hm0 rfl 0 (by decide) (hts _ (List.mem_cons_of_mem _ kw_418)) (fun _ h9 => h9) rfl (by decide +kernel) rfl rfl (Nat.le_of_ble_eq_true rfl) dX4_settle_17 (fun H f9 hn9 hz9 oq9 => ?_)
    have hPic : mW D g am 0 dv vo ab be AA H := mW_obj hj hPic oq9 hn9
    have hT0 := hT0.put 0 (by omega) hz9 oq9 (f := f9)
    have hm0 := hPic.1
    have hm6 : va_at D vwCl (am 6, .inl (g 0, 8, .inl (fun j => jI (AA 6 j)))) H := hPic.2 6 (by omega) (by omega)
    have hm9 : va_at D vwCl (am 9, .inl (g 0, 8, .inl (fun j => jI (AA 9 j)))) H := hPic.2 9 (by omega) (by omega)
    have hm11 : va_at D vwCl (am 11, .inl (g 0, 128, .inl (fun j => jI (AA 11 j)))) H := hPic.2 11 (by omega) (by omega)
    have hm12 : va_at D vwCl (am 12, .inl (g 0, 8, .inl (fun j => jI (AA 12 j)))) H := hPic.2 12 (by omega) (by omega)
    refine lv_aload_n hx hb dX4_settle_20 rfl (lv_at hl 0 rfl) ?_
    refine va_get (D := D) (ci := 4) (v := .int (jI (0))) (C := RX4) (T := TX4) (N := 17) hx hb hts (fun w h => List.mem_cons_of_mem _ (uw_X4 w h)) hown hK (j_P1 hm0) 0 rfl rfl 0 (by decide) (hts _ (List.mem_cons_of_mem _ kw_418)) (fun _ h9 => h9) rfl dX4_settle_21 ?_
    refine jv_if_le (tgt := 29) hx hb dX4_settle_24 (by decide) (by omega) (fun c24 => ?_) (fun c24 => ?_)
    · refine jv_iconst hx hb dX4_settle_29 ?_
      refine lv_istore_n (lv' := [(2, .int (jI (0))), (0, .ref (am 0)), (1, .int (jI (mg)))]) hx hb dX4_settle_30 rfl hl (by decide) rfl (fun ls hl => ?_)
      refine jw_loop3 (X := Nat × (Nat → Nat → Int)) (fun x => 128 - x.1) (fun x H L ls => (x.1 ≤ 128 ∧ mR z dv vo x.2 ∧ (∀ j, j < x.1 → x.2 11 j = 0) ∧ mW D g am 0 dv vo ab be x.2 H ∧ mTo am s.heap H L) ∧ lv_has ls 4 [(0, .ref (am 0)), (1, .int (jI (mg))), (2, .int (jI ((x.1 : Int))))]) ?_ (0, AA) H _ ls ⟨⟨by dsimp only; omega, hR, fun j hj => absurd hj (by dsimp only; omega), hPic, hT0⟩, lv_sub hl [1, 2, 0] rfl⟩
      clear hl hPic hT0 hR
      intro x H L ls hinv ih
      obtain ⟨k, B⟩ := x
      obtain ⟨⟨hk1, hR, hk3, hPic, hT0⟩, hl⟩ := hinv
      dsimp only at hk1 hR hk3 hPic
      have hl : lv_has ls 4 [(0, .ref (am 0)), (1, .int (jI (mg))), (2, .int (jI ((k : Int))))] := hl
      have hm0 := hPic.1
      have hm11 : va_at D vwCl (am 11, .inl (g 0, 128, .inl (fun j => jI (B 11 j)))) H := hPic.2 11 (by omega) (by omega)
      have hm12 : va_at D vwCl (am 12, .inl (g 0, 8, .inl (fun j => jI (B 12 j)))) H := hPic.2 12 (by omega) (by omega)
      refine lv_iload_n hx hb dX4_settle_31 rfl (lv_at hl 2 rfl) ?_
      refine jv_sipush hx hb dX4_settle_32 (by decide) ?_
      refine jv_icmp_ge (tgt := 51) hx hb dX4_settle_35 (by decide) (by omega) (by omega) (fun c35 => ?_) (fun c35 => ?_)
      · refine jv_iconst hx hb dX4_settle_51 ?_
        refine lv_istore_n (lv' := [(2, .int (jI (0))), (0, .ref (am 0)), (1, .int (jI (mg)))]) hx hb dX4_settle_52 rfl hl (by decide) rfl (fun ls hl => ?_)
        refine lv_aload_n hx hb dX4_settle_53 rfl (lv_at hl 1 rfl) ?_
        refine va_get (D := D) (ci := 4) (v := .ref (am 12)) (C := RX4) (T := TX4) (N := 17) hx hb hts (fun w h => List.mem_cons_of_mem _ (uw_X4 w h)) hown hK (j_P1 hm0) 0 rfl rfl 16 (by decide) (hts _ (List.mem_cons_of_mem _ kw_434)) (fun _ h9 => h9) rfl dX4_settle_54 ?_
        refine jv_iconst hx hb dX4_settle_57 ?_
        refine jv_iconst hx hb dX4_settle_58 ?_
        refine jv_iast (i := 0) hx hb hK hm12 0 rfl (by omega) (by omega) (by decide) dX4_settle_59 (fun H f9 hn9 hz9 oq9 => ?_)
        have hPic := mW_arr hj hPic 12 (by omega) (by omega) oq9 hn9
        obtain ⟨A2, hA2⟩ : ∃ A9, A9 = jUp B 12 (jUp (B 12) 0 (0)) := ⟨_, rfl⟩
        rw [← hA2] at hPic
        have hT0 := hT0.put 12 (by omega) hz9 oq9 (f := f9)
        have hm0 := hPic.1
        have hm6 : va_at D vwCl (am 6, .inl (g 0, 8, .inl (fun j => jI (A2 6 j)))) H := hPic.2 6 (by omega) (by omega)
        have hm9 : va_at D vwCl (am 9, .inl (g 0, 8, .inl (fun j => jI (A2 9 j)))) H := hPic.2 9 (by omega) (by omega)
        have hm11 : va_at D vwCl (am 11, .inl (g 0, 128, .inl (fun j => jI (A2 11 j)))) H := hPic.2 11 (by omega) (by omega)
        have hm12 : va_at D vwCl (am 12, .inl (g 0, 8, .inl (fun j => jI (A2 12 j)))) H := hPic.2 12 (by omega) (by omega)
        have hmem : mMem z mg (A2 11) := by rw [hA2, jUp_n (by decide)]; exact fun i j u k a1 a2 a3 a4 => Or.inl (hk3 _ (by have h1 := hz.2.2.1 i (by omega); have h2 := hz.2.2.2 i u a1 a2; have h3 := hz.2.2.1 u (by omega); omega))
        have hR := dTrR hA2 (by decide) hR
        refine jw_loop3 (X := Int × Nat × (Nat → Nat) × (Nat → Nat → Int) × Int × Int) (fun x => dMu (bN z) x.2.1 x.2.2.1) (fun x H L ls => (x.1 = (x.2.1 : Int) - 1 ∧ dInv (bN z) (bU z) (bO z) (okf z mg) x.2.1 x.2.2.1 ∧ (∀ i, i < x.2.1 → i < bN z → x.2.2.2.1 12 i = (x.2.2.1 i : Int)) ∧ mMem z mg (x.2.2.2.1 11) ∧ mR z dv vo x.2.2.2.1 ∧ mW D g am 0 dv vo x.2.2.2.2.1 x.2.2.2.2.2 x.2.2.2.1 H ∧ mTo am s.heap H L) ∧ lv_has ls 4 [(0, .ref (am 0)), (1, .int (jI (mg))), (2, .int (jI (x.1)))]) ?_ (0, 1, fun _ => 0, A2, ab, be) H _ ls ⟨⟨by dsimp only; omega, dInv_start _ rfl, fun i h1 h2 => by dsimp only at h1 ⊢; rw [show i = 0 by omega, hA2, jUp_s, jUp_s]; rfl, hmem, hR, hPic, hT0⟩, lv_sub hl [1, 2, 0] rfl⟩
        clear hl hPic hT0 hR hmem hk3 ih hm11 hm12 hm0 hk1 c35
        clear hA2
        intro x H L ls hinv ih
        obtain ⟨q, e9, t, B, a1, b1⟩ := x
        obtain ⟨⟨hq, hdI, ht, hmem, hR, hPic, hT0⟩, hl⟩ := hinv
        dsimp only at hq hdI ht hmem hR hPic
        have hl : lv_has ls 4 [(0, .ref (am 0)), (1, .int (jI (mg))), (2, .int (jI (q)))] := hl
        have hup : ∀ i u, i < bN z → bU z i = some u → u < i := hz.2.2.2
        have hop4 : ∀ i, i < bN z → bO z i ≤ 4 := fun i hi => (hz.2.2.1 i (by omega)).2.1
        rcases (show (e9 = 0 ∧ q = -1) ∨ ∃ d, e9 = d + 1 ∧ q = ((d : Nat) : Int) by cases e9 with | zero => exact Or.inl ⟨rfl, by omega⟩ | succ d => exact Or.inr ⟨d, rfl, by omega⟩) with ⟨rfl, rfl⟩ | ⟨d, rfl, rfl⟩
        · have hm0 := hPic.1
          have hm6 : va_at D vwCl (am 6, .inl (g 0, 8, .inl (fun j => jI (B 6 j)))) H := hPic.2 6 (by omega) (by omega)
          have hm9 : va_at D vwCl (am 9, .inl (g 0, 8, .inl (fun j => jI (B 9 j)))) H := hPic.2 9 (by omega) (by omega)
          have hm11 : va_at D vwCl (am 11, .inl (g 0, 128, .inl (fun j => jI (B 11 j)))) H := hPic.2 11 (by omega) (by omega)
          have hm12 : va_at D vwCl (am 12, .inl (g 0, 8, .inl (fun j => jI (B 12 j)))) H := hPic.2 12 (by omega) (by omega)
          refine lv_iload_n hx hb dX4_settle_60 rfl (lv_at hl 2 rfl) ?_
          refine jv_if_lt (tgt := 150) hx hb dX4_settle_61 (by decide) (by omega) (fun c61 => ?_) (fun c61 => ?_)
          · refine jv_iconst hx hb dX4_settle_150 ?_
            refine lv_istore_n (lv' := [(3, .int (jI (0))), (0, .ref (am 0)), (1, .int (jI (mg))), (2, .int (jI ((-1))))]) hx hb dX4_settle_151 rfl hl (by decide) rfl (fun ls hl => ?_)
            refine lv_iload_n hx hb dX4_settle_152 rfl (lv_at hl 0 rfl) ?_
            refine lv_aload_n hx hb dX4_settle_153 rfl (lv_at hl 1 rfl) ?_
            refine va_get (D := D) (ci := 4) (v := .int (jI (dv))) (C := RX4) (T := TX4) (N := 17) hx hb hts (fun w h => List.mem_cons_of_mem _ (uw_X4 w h)) hown hK (j_P1 hm0) 0 rfl rfl 1 (by decide) (hts _ (List.mem_cons_of_mem _ kw_419)) (fun _ h9 => h9) rfl dX4_settle_154 ?_
            refine jv_icmp_ge (tgt := 182) hx hb dX4_settle_157 (by decide) (by omega) (by omega) (fun c157 => ?_) (fun c157 => ?_)
            · refine lv_iload_n hx hb dX4_settle_182 rfl (lv_at hl 3 rfl) ?_
              refine jv_if_lt (tgt := 190) hx hb dX4_settle_183 (by decide) (by omega) (fun c183 => ?_) (fun c183 => ?_)
              · refine jv_iconst hx hb dX4_settle_190 ?_
                exact m_zret hx hb hr hlocks dX4_settle_191 ⟨rfl, hR⟩ hPic hT0 (by rfl)
              · exact absurd (show (0 : Int) ≤ -1 from c183) (by decide)
            · refine lv_iload_n hx hb dX4_settle_160 rfl (lv_at hl 3 rfl) ?_
              refine jv_if_lt (tgt := 182) hx hb dX4_settle_161 (by decide) (by omega) (fun c161 => ?_) (fun c161 => ?_)
              · refine lv_iload_n hx hb dX4_settle_182 rfl (lv_at hl 3 rfl) ?_
                refine jv_if_lt (tgt := 190) hx hb dX4_settle_183 (by decide) (by omega) (fun c183 => ?_) (fun c183 => ?_)
                · refine jv_iconst hx hb dX4_settle_190 ?_
                  exact m_zret hx hb hr hlocks dX4_settle_191 ⟨rfl, hR⟩ hPic hT0 (by rfl)
                · exact absurd (show (0 : Int) ≤ -1 from c183) (by decide)
              · exact absurd (show (0 : Int) ≤ -1 from c161) (by decide)
          · exact absurd (show (0 : Int) ≤ -1 from c61) (by decide)
        · have hm0 := hPic.1
          have hm6 : va_at D vwCl (am 6, .inl (g 0, 8, .inl (fun j => jI (B 6 j)))) H := hPic.2 6 (by omega) (by omega)
          have hm9 : va_at D vwCl (am 9, .inl (g 0, 8, .inl (fun j => jI (B 9 j)))) H := hPic.2 9 (by omega) (by omega)
          have hm11 : va_at D vwCl (am 11, .inl (g 0, 128, .inl (fun j => jI (B 11 j)))) H := hPic.2 11 (by omega) (by omega)
          have hm12 : va_at D vwCl (am 12, .inl (g 0, 8, .inl (fun j => jI (B 12 j)))) H := hPic.2 12 (by omega) (by omega)
          have hde := hdI.1
          refine lv_iload_n hx hb dX4_settle_60 rfl (lv_at hl 2 rfl) ?_
          refine jv_if_lt (tgt := 150) hx hb dX4_settle_61 (by decide) (by omega) (fun c61 => ?_) (fun c61 => ?_)
          · exact absurd c61 (by omega)
          · refine lv_iload_n hx hb dX4_settle_64 rfl (lv_at hl 2 rfl) ?_
            refine lv_aload_n hx hb dX4_settle_65 rfl (lv_at hl 0 rfl) ?_
            refine va_get (D := D) (ci := 4) (v := .int (jI (dv))) (C := RX4) (T := TX4) (N := 17) hx hb hts (fun w h => List.mem_cons_of_mem _ (uw_X4 w h)) hown hK (j_P1 hm0) 0 rfl rfl 1 (by decide) (hts _ (List.mem_cons_of_mem _ kw_419)) (fun _ h9 => h9) rfl dX4_settle_66 ?_
            refine jv_icmp_ge (tgt := 150) hx hb dX4_settle_69 (by decide) (by omega) (by omega) (fun c69 => ?_) (fun c69 => ?_)
            · exact absurd (dInv_end (show dInv (bN z) (bU z) (bO z) (okf z mg) (bN z + 1) t from (fun h9 : d = bN z => by rw [h9] at hdI; exact hdI) (by omega))).1 (hno t)
            · have htd0 : B 12 d = (t d : Int) := ht d (by omega) (by omega)
              obtain ⟨-, -, -, e6_d, -⟩ := hR.2.2 d (by omega)
              have o4 := hop4 d (by omega)
              have td4 := hdI.2.2.2.1 d rfl (by omega)
              refine lv_aload_n hx hb dX4_settle_72 rfl (lv_at hl 0 rfl) ?_
              refine va_get (D := D) (ci := 4) (v := .ref (am 12)) (C := RX4) (T := TX4) (N := 17) hx hb hts (fun w h => List.mem_cons_of_mem _ (uw_X4 w h)) hown hK (j_P1 hm0) 0 rfl rfl 16 (by decide) (hts _ (List.mem_cons_of_mem _ kw_434)) (fun _ h9 => h9) rfl dX4_settle_73 ?_
              refine lv_iload_n hx hb dX4_settle_76 rfl (lv_at hl 2 rfl) ?_
              refine jv_iald (i := d) hx hb hK hm12 0 rfl (by omega) (by omega) (by decide) dX4_settle_77 ?_
              rw [htd0]
              refine lv_aload_n hx hb dX4_settle_78 rfl (lv_at hl 0 rfl) ?_
              refine va_get (D := D) (ci := 4) (v := .ref (am 6)) (C := RX4) (T := TX4) (N := 17) hx hb hts (fun w h => List.mem_cons_of_mem _ (uw_X4 w h)) hown hK (j_P1 hm0) 0 rfl rfl 7 (by decide) (hts _ (List.mem_cons_of_mem _ kw_425)) (fun _ h9 => h9) rfl dX4_settle_79 ?_
              refine lv_iload_n hx hb dX4_settle_82 rfl (lv_at hl 2 rfl) ?_
              refine jv_iald (i := d) hx hb hK hm6 0 rfl (by omega) (by omega) (by decide) dX4_settle_83 ?_
              rw [e6_d]
              refine jv_icmp_ne (tgt := 107) hx hb dX4_settle_84 (by decide) (by omega) (by omega) (fun c84 => ?_) (fun c84 => ?_)
              · refine lv_aload_n hx hb dX4_settle_107 rfl (lv_at hl 0 rfl) ?_
                refine lv_iload_n hx hb dX4_settle_108 rfl (lv_at hl 2 rfl) ?_
                refine lv_iload_n hx hb dX4_settle_109 rfl (lv_at hl 1 rfl) ?_
                have htd : t d < bO z d := by have := hdI.2.2.2.1 d rfl (by omega); omega
                cases hU : bU z d with
                | none =>
                  refine m_call (va_runV (As := [.int (jI ((d : Int))), .int (jI (mg))]) (rest := []) ⟨hx, hb, hml, hown, hts⟩ (k_fits0 l D g am 0 dv vo a1 b1 B z hz hR d mg (by omega) hU hj) (cwV 2 hts (gd_V kw_535 kw_537 kw_8 kw_16 kcX4_fits) rfl rfl rfl (by decide +kernel) ⟨Nat.le_of_ble_eq_true rfl, Nat.le_of_ble_eq_true rfl⟩) (pu_preV hPic hK rfl hm0) rfl rfl hl.1 rfl (lv_room (Nat.le_of_ble_eq_true rfl)) dX4_settle_110 ⟨Nat.zero_le _, Nat.zero_le _⟩) hT0 (fun H locs cd9 dv9 vo9 AA9 ab9 be9 hPh hPic hT0 => ?_)
                  refine W.eq (g2 := F0 m 113 ls [.int (jI (bI true))]) rfl ?_
                  obtain ⟨q1, q2, q3, q4⟩ := hPh
                  rw [q1, q2, q3, q4] at hPic
                  have hm0 := hPic.1
                  have hm6 : va_at D vwCl (am 6, .inl (g 0, 8, .inl (fun j => jI (B 6 j)))) H := hPic.2 6 (by omega) (by omega)
                  have hm9 : va_at D vwCl (am 9, .inl (g 0, 8, .inl (fun j => jI (B 9 j)))) H := hPic.2 9 (by omega) (by omega)
                  have hm11 : va_at D vwCl (am 11, .inl (g 0, 128, .inl (fun j => jI (B 11 j)))) H := hPic.2 11 (by omega) (by omega)
                  have hm12 : va_at D vwCl (am 12, .inl (g 0, 8, .inl (fun j => jI (B 12 j)))) H := hPic.2 12 (by omega) (by omega)
                  refine jv_if_eq (tgt := 137) hx hb dX4_settle_113 (by decide) (bI_rng _) (fun c113 => ?_) (fun c113 => ?_)
                  · exact absurd c113 (by decide)
                  · refine lv_iinc (v := jI ((d : Int) + 1)) (lv' := [(2, .int (jI ((d : Int) + 1))), (0, .ref (am 0)), (1, .int (jI (mg)))]) hx hb dX4_settle_116 hl (k := 2) rfl (jI_add _ _) (by decide) rfl (fun ls hl => ?_)
                    refine lv_iload_n hx hb dX4_settle_119 rfl (lv_at hl 0 rfl) ?_
                    refine lv_aload_n hx hb dX4_settle_120 rfl (lv_at hl 1 rfl) ?_
                    refine va_get (D := D) (ci := 4) (v := .int (jI (dv))) (C := RX4) (T := TX4) (N := 17) hx hb hts (fun w h => List.mem_cons_of_mem _ (uw_X4 w h)) hown hK (j_P1 hm0) 0 rfl rfl 1 (by decide) (hts _ (List.mem_cons_of_mem _ kw_419)) (fun _ h9 => h9) rfl dX4_settle_121 ?_
                    refine jv_icmp_ge (tgt := 60) hx hb dX4_settle_124 (by decide) (by omega) (by omega) (fun c124 => ?_) (fun c124 => ?_)
                    · have hd9 := dInv_fwd (t' := t) hup hdI (by omega) htd (fun u' hu' => by rw [hU] at hu'; cases hu') (fun _ _ => rfl) (fun h => absurd h (by omega))
                      exact ih ((d : Int) + 1, d + 2, t, B, ab9, be9) H _ ls ⟨⟨by dsimp only; omega, hd9, fun i h1 h2 => ht i (by omega) h2, hmem, hR, hPic, hT0⟩, lv_sub hl [1, 2, 0] rfl⟩ (dMu_fwd (by omega) hd9 hop4 (by omega) (fun _ _ => rfl) (fun h => absurd h (by omega)))
                    · refine lv_aload_n hx hb dX4_settle_127 rfl (lv_at hl 1 rfl) ?_
                      refine va_get (D := D) (ci := 4) (v := .ref (am 12)) (C := RX4) (T := TX4) (N := 17) hx hb hts (fun w h => List.mem_cons_of_mem _ (uw_X4 w h)) hown hK (j_P1 hm0) 0 rfl rfl 16 (by decide) (hts _ (List.mem_cons_of_mem _ kw_434)) (fun _ h9 => h9) rfl dX4_settle_128 ?_
                      refine lv_iload_n hx hb dX4_settle_131 rfl (lv_at hl 0 rfl) ?_
                      refine jv_iconst hx hb dX4_settle_132 ?_
                      refine jv_iast (i := (d + 1)) hx hb hK hm12 0 rfl (by omega) (by omega) (by decide) dX4_settle_133 (fun H f9 hn9 hz9 oq9 => ?_)
                      have hPic := mW_arr hj hPic 12 (by omega) (by omega) oq9 hn9
                      obtain ⟨A1, hA1⟩ : ∃ A9, A9 = jUp B 12 (jUp (B 12) (d + 1) (0)) := ⟨_, rfl⟩
                      rw [← hA1] at hPic
                      have hT0 := hT0.put 12 (by omega) hz9 oq9 (f := f9)
                      have hm0 := hPic.1
                      have hm6 : va_at D vwCl (am 6, .inl (g 0, 8, .inl (fun j => jI (A1 6 j)))) H := hPic.2 6 (by omega) (by omega)
                      have hm9 : va_at D vwCl (am 9, .inl (g 0, 8, .inl (fun j => jI (A1 9 j)))) H := hPic.2 9 (by omega) (by omega)
                      have hm11 : va_at D vwCl (am 11, .inl (g 0, 128, .inl (fun j => jI (A1 11 j)))) H := hPic.2 11 (by omega) (by omega)
                      have hm12 : va_at D vwCl (am 12, .inl (g 0, 8, .inl (fun j => jI (A1 12 j)))) H := hPic.2 12 (by omega) (by omega)
                      refine lv_goto (tgt := 60) hx hb dX4_settle_134 (by decide) ?_
                      have hd9 := dInv_fwd (t' := jUp t (d + 1) 0) hup hdI (by omega) htd (fun u' hu' => by rw [hU] at hu'; cases hu') (fun i hi => jUp_n (by omega)) (fun _ => jUp_s _ _ _)
                      exact ih ((d : Int) + 1, d + 2, jUp t (d + 1) 0, A1, ab9, be9) H _ ls ⟨⟨by dsimp only; omega, hd9, dTr (v := 0) (e := d + 1) (e' := d + 2) hA1 rfl ht (fun i h1 h2 => by omega), dTrM hA1 hmem, dTrR hA1 (by decide) hR, hPic, hT0⟩, lv_sub hl [1, 2, 0] rfl⟩ (dMu_fwd (by omega) hd9 hop4 (by omega) (fun i hi => jUp_n (by omega)) (fun _ => jUp_s _ _ _))
                | some u =>
                  have huL := hup d u (by omega) hU
                  refine m_call (va_runV (As := [.int (jI ((d : Int))), .int (jI (mg))]) (rest := []) ⟨hx, hb, hml, hown, hts⟩ (k_fits1 l D g am 0 dv vo a1 b1 B z hz hR d u (t d) (t u) mg (by omega) hU hmg hmem (ht d (by omega) (by omega)) (ht u (by omega) (by omega)) htd (hdI.2.2.1 u (by omega)).1 hj) (cwV 2 hts (gd_V kw_535 kw_537 kw_8 kw_16 kcX4_fits) rfl rfl rfl (by decide +kernel) ⟨Nat.le_of_ble_eq_true rfl, Nat.le_of_ble_eq_true rfl⟩) (pu_preV hPic hK rfl hm0) rfl rfl hl.1 rfl (lv_room (Nat.le_of_ble_eq_true rfl)) dX4_settle_110 ⟨Nat.zero_le _, Nat.zero_le _⟩) hT0 (fun H locs cd9 dv9 vo9 AA9 ab9 be9 hPh hPic hT0 => ?_)
                  refine W.eq (g2 := F0 m 113 ls [.int (jI (bI (okb z mg d (t d) u (t u))))]) rfl ?_
                  obtain ⟨q1, q2, q3, q4, q5⟩ := hPh
                  rw [q1, q2, q3] at hPic
                  have hm0 := hPic.1
                  have hm6 : va_at D vwCl (am 6, .inl (g 0, 8, .inl (fun j => jI (AA9 6 j)))) H := hPic.2 6 (by omega) (by omega)
                  have hm9 : va_at D vwCl (am 9, .inl (g 0, 8, .inl (fun j => jI (AA9 9 j)))) H := hPic.2 9 (by omega) (by omega)
                  have hm11 : va_at D vwCl (am 11, .inl (g 0, 128, .inl (fun j => jI (AA9 11 j)))) H := hPic.2 11 (by omega) (by omega)
                  have hm12 : va_at D vwCl (am 12, .inl (g 0, 8, .inl (fun j => jI (AA9 12 j)))) H := hPic.2 12 (by omega) (by omega)
                  have hR := mR_ext hR (fun a ha => q4 a (by omega))
                  have ht : ∀ i, i < d + 1 → i < bN z → AA9 12 i = (t i : Int) := fun i h1 h2 => by rw [q4 12 (by decide)]; exact ht i h1 h2
                  have htd0 : AA9 12 d = (t d : Int) := ht d (by omega) (by omega)
                  have hmem := q5
                  refine jv_if_eq (tgt := 137) hx hb dX4_settle_113 (by decide) (bI_rng _) (fun c113 => ?_) (fun c113 => ?_)
                  · refine lv_aload_n hx hb dX4_settle_137 rfl (lv_at hl 0 rfl) ?_
                    refine va_get (D := D) (ci := 4) (v := .ref (am 12)) (C := RX4) (T := TX4) (N := 17) hx hb hts (fun w h => List.mem_cons_of_mem _ (uw_X4 w h)) hown hK (j_P1 hm0) 0 rfl rfl 16 (by decide) (hts _ (List.mem_cons_of_mem _ kw_434)) (fun _ h9 => h9) rfl dX4_settle_138 ?_
                    refine lv_iload_n hx hb dX4_settle_141 rfl (lv_at hl 2 rfl) ?_
                    refine lv_dup2_11 hx hb dX4_settle_142 rfl rfl ?_
                    refine jv_iald (i := d) hx hb hK hm12 0 rfl (by omega) (by omega) (by decide) dX4_settle_143 ?_
                    rw [htd0]
                    refine jv_iconst hx hb dX4_settle_144 ?_
                    refine jv_iadd hx hb dX4_settle_145 ?_
                    refine jv_iast (i := d) hx hb hK hm12 0 rfl (by omega) (by omega) (by decide) dX4_settle_146 (fun H f9 hn9 hz9 oq9 => ?_)
                    have hPic := mW_arr hj hPic 12 (by omega) (by omega) oq9 hn9
                    obtain ⟨A1, hA1⟩ : ∃ A9, A9 = jUp AA9 12 (jUp (AA9 12) d ((t d : Int) + 1)) := ⟨_, rfl⟩
                    rw [← hA1] at hPic
                    have hT0 := hT0.put 12 (by omega) hz9 oq9 (f := f9)
                    have hm0 := hPic.1
                    have hm6 : va_at D vwCl (am 6, .inl (g 0, 8, .inl (fun j => jI (A1 6 j)))) H := hPic.2 6 (by omega) (by omega)
                    have hm9 : va_at D vwCl (am 9, .inl (g 0, 8, .inl (fun j => jI (A1 9 j)))) H := hPic.2 9 (by omega) (by omega)
                    have hm11 : va_at D vwCl (am 11, .inl (g 0, 128, .inl (fun j => jI (A1 11 j)))) H := hPic.2 11 (by omega) (by omega)
                    have hm12 : va_at D vwCl (am 12, .inl (g 0, 8, .inl (fun j => jI (A1 12 j)))) H := hPic.2 12 (by omega) (by omega)
                    refine lv_goto (tgt := 60) hx hb dX4_settle_147 (by decide) ?_
                    have hd9 := dInv_next hup hdI (by omega) htd ⟨u, hU, by rw [okf_some hU]; exact bI_fa c113⟩
                    exact ih ((d : Int), d + 1, jUp t d (t d + 1), A1, ab9, be9) H _ ls ⟨⟨by dsimp only; omega, hd9, dTr (v := t d + 1) (e := d + 1) (e' := d + 1) hA1 (by omega) ht (fun i h1 h2 => h1), dTrM hA1 hmem, dTrR hA1 (by decide) hR, hPic, hT0⟩, lv_sub hl [0, 1, 2] rfl⟩ (dMu_next (by omega) hd9 hop4 (by omega))
                  · refine lv_iinc (v := jI ((d : Int) + 1)) (lv' := [(2, .int (jI ((d : Int) + 1))), (0, .ref (am 0)), (1, .int (jI (mg)))]) hx hb dX4_settle_116 hl (k := 2) rfl (jI_add _ _) (by decide) rfl (fun ls hl => ?_)
                    refine lv_iload_n hx hb dX4_settle_119 rfl (lv_at hl 0 rfl) ?_
                    refine lv_aload_n hx hb dX4_settle_120 rfl (lv_at hl 1 rfl) ?_
                    refine va_get (D := D) (ci := 4) (v := .int (jI (dv))) (C := RX4) (T := TX4) (N := 17) hx hb hts (fun w h => List.mem_cons_of_mem _ (uw_X4 w h)) hown hK (j_P1 hm0) 0 rfl rfl 1 (by decide) (hts _ (List.mem_cons_of_mem _ kw_419)) (fun _ h9 => h9) rfl dX4_settle_121 ?_
                    refine jv_icmp_ge (tgt := 60) hx hb dX4_settle_124 (by decide) (by omega) (by omega) (fun c124 => ?_) (fun c124 => ?_)
                    · have hd9 := dInv_fwd (t' := t) hup hdI (by omega) htd (fun u' hu' => by rw [hU] at hu'; cases hu'; rw [okf_some hU]; exact bI_tr c113) (fun _ _ => rfl) (fun h => absurd h (by omega))
                      exact ih ((d : Int) + 1, d + 2, t, AA9, ab9, be9) H _ ls ⟨⟨by dsimp only; omega, hd9, fun i h1 h2 => ht i (by omega) h2, hmem, hR, hPic, hT0⟩, lv_sub hl [1, 2, 0] rfl⟩ (dMu_fwd (by omega) hd9 hop4 (by omega) (fun _ _ => rfl) (fun h => absurd h (by omega)))
                    · refine lv_aload_n hx hb dX4_settle_127 rfl (lv_at hl 1 rfl) ?_
                      refine va_get (D := D) (ci := 4) (v := .ref (am 12)) (C := RX4) (T := TX4) (N := 17) hx hb hts (fun w h => List.mem_cons_of_mem _ (uw_X4 w h)) hown hK (j_P1 hm0) 0 rfl rfl 16 (by decide) (hts _ (List.mem_cons_of_mem _ kw_434)) (fun _ h9 => h9) rfl dX4_settle_128 ?_
                      refine lv_iload_n hx hb dX4_settle_131 rfl (lv_at hl 0 rfl) ?_
                      refine jv_iconst hx hb dX4_settle_132 ?_
                      refine jv_iast (i := (d + 1)) hx hb hK hm12 0 rfl (by omega) (by omega) (by decide) dX4_settle_133 (fun H f9 hn9 hz9 oq9 => ?_)
                      have hPic := mW_arr hj hPic 12 (by omega) (by omega) oq9 hn9
                      obtain ⟨A1, hA1⟩ : ∃ A9, A9 = jUp AA9 12 (jUp (AA9 12) (d + 1) (0)) := ⟨_, rfl⟩
                      rw [← hA1] at hPic
                      have hT0 := hT0.put 12 (by omega) hz9 oq9 (f := f9)
                      have hm0 := hPic.1
                      have hm6 : va_at D vwCl (am 6, .inl (g 0, 8, .inl (fun j => jI (A1 6 j)))) H := hPic.2 6 (by omega) (by omega)
                      have hm9 : va_at D vwCl (am 9, .inl (g 0, 8, .inl (fun j => jI (A1 9 j)))) H := hPic.2 9 (by omega) (by omega)
                      have hm11 : va_at D vwCl (am 11, .inl (g 0, 128, .inl (fun j => jI (A1 11 j)))) H := hPic.2 11 (by omega) (by omega)
                      have hm12 : va_at D vwCl (am 12, .inl (g 0, 8, .inl (fun j => jI (A1 12 j)))) H := hPic.2 12 (by omega) (by omega)
                      refine lv_goto (tgt := 60) hx hb dX4_settle_134 (by decide) ?_
                      have hd9 := dInv_fwd (t' := jUp t (d + 1) 0) hup hdI (by omega) htd (fun u' hu' => by rw [hU] at hu'; cases hu'; rw [okf_some hU]; exact bI_tr c113) (fun i hi => jUp_n (by omega)) (fun _ => jUp_s _ _ _)
                      exact ih ((d : Int) + 1, d + 2, jUp t (d + 1) 0, A1, ab9, be9) H _ ls ⟨⟨by dsimp only; omega, hd9, dTr (v := 0) (e := d + 1) (e' := d + 2) hA1 rfl ht (fun i h1 h2 => by omega), dTrM hA1 hmem, dTrR hA1 (by decide) hR, hPic, hT0⟩, lv_sub hl [1, 2, 0] rfl⟩ (dMu_fwd (by omega) hd9 hop4 (by omega) (fun i hi => jUp_n (by omega)) (fun _ => jUp_s _ _ _))
              · refine lv_iinc (v := jI ((d : Int) + (-1))) (lv' := [(2, .int (jI ((d : Int) + (-1)))), (0, .ref (am 0)), (1, .int (jI (mg)))]) hx hb dX4_settle_87 hl (k := 2) rfl (jI_add _ _) (by decide) rfl (fun ls hl => ?_)
                refine lv_iload_n hx hb dX4_settle_90 rfl (lv_at hl 0 rfl) ?_
                refine jv_if_lt (tgt := 60) hx hb dX4_settle_91 (by decide) (by omega) (fun c91 => ?_) (fun c91 => ?_)
                · have hd0 : d = 0 := by omega
                  subst hd0
                  have hd9 := dInv_out hdI (by omega) (by omega)
                  exact ih (((0 : Nat) : Int) + (-1), 0, t, B, a1, b1) H _ ls ⟨⟨by dsimp only; omega, hd9, fun i h1 => absurd h1 (by dsimp only; omega), hmem, hR, hPic, hT0⟩, lv_sub hl [1, 2, 0] rfl⟩ (dMu_out (by omega) hdI hop4)
                · have htp : B 12 (d - 1) = (t (d - 1) : Int) := ht (d - 1) (by omega) (by omega)
                  refine lv_aload_n hx hb dX4_settle_94 rfl (lv_at hl 1 rfl) ?_
                  refine va_get (D := D) (ci := 4) (v := .ref (am 12)) (C := RX4) (T := TX4) (N := 17) hx hb hts (fun w h => List.mem_cons_of_mem _ (uw_X4 w h)) hown hK (j_P1 hm0) 0 rfl rfl 16 (by decide) (hts _ (List.mem_cons_of_mem _ kw_434)) (fun _ h9 => h9) rfl dX4_settle_95 ?_
                  refine lv_iload_n hx hb dX4_settle_98 rfl (lv_at hl 0 rfl) ?_
                  refine lv_dup2_11 hx hb dX4_settle_99 rfl rfl ?_
                  refine jv_iald (i := (d - 1)) hx hb hK hm12 0 rfl (by omega) (by omega) (by decide) dX4_settle_100 ?_
                  rw [htp]
                  refine jv_iconst hx hb dX4_settle_101 ?_
                  refine jv_iadd hx hb dX4_settle_102 ?_
                  refine jv_iast (i := (d - 1)) hx hb hK hm12 0 rfl (by omega) (by omega) (by decide) dX4_settle_103 (fun H f9 hn9 hz9 oq9 => ?_)
                  have hPic := mW_arr hj hPic 12 (by omega) (by omega) oq9 hn9
                  obtain ⟨A1, hA1⟩ : ∃ A9, A9 = jUp B 12 (jUp (B 12) (d - 1) ((t (d - 1) : Int) + 1)) := ⟨_, rfl⟩
                  rw [← hA1] at hPic
                  have hT0 := hT0.put 12 (by omega) hz9 oq9 (f := f9)
                  have hm0 := hPic.1
                  have hm6 : va_at D vwCl (am 6, .inl (g 0, 8, .inl (fun j => jI (A1 6 j)))) H := hPic.2 6 (by omega) (by omega)
                  have hm9 : va_at D vwCl (am 9, .inl (g 0, 8, .inl (fun j => jI (A1 9 j)))) H := hPic.2 9 (by omega) (by omega)
                  have hm11 : va_at D vwCl (am 11, .inl (g 0, 128, .inl (fun j => jI (A1 11 j)))) H := hPic.2 11 (by omega) (by omega)
                  have hm12 : va_at D vwCl (am 12, .inl (g 0, 8, .inl (fun j => jI (A1 12 j)))) H := hPic.2 12 (by omega) (by omega)
                  refine lv_goto (tgt := 60) hx hb dX4_settle_104 (by decide) ?_
                  obtain ⟨d9, rfl⟩ : ∃ d9, d = d9 + 1 := ⟨d - 1, by omega⟩
                  rw [Nat.add_sub_cancel] at hA1
                  have hd9 := dInv_back hup hdI (by omega) (by omega)
                  exact ih (((d9 + 1 : Nat) : Int) + (-1), d9 + 1, jUp t d9 (t d9 + 1), A1, a1, b1) H _ ls ⟨⟨by dsimp only; omega, hd9, dTr (v := t d9 + 1) (e := d9 + 2) (e' := d9 + 1) hA1 (by omega) ht (fun i h1 h2 => by omega), dTrM hA1 hmem, dTrR hA1 (by decide) hR, hPic, hT0⟩, lv_sub hl [1, 2, 0] rfl⟩ (dMu_back (by omega) hd9 hop4 (by omega) (by have := hop4 (d9 + 1) (by omega); omega))
      · refine lv_aload_n hx hb dX4_settle_38 rfl (lv_at hl 0 rfl) ?_
        refine va_get (D := D) (ci := 4) (v := .ref (am 11)) (C := RX4) (T := TX4) (N := 17) hx hb hts (fun w h => List.mem_cons_of_mem _ (uw_X4 w h)) hown hK (j_P1 hm0) 0 rfl rfl 15 (by decide) (hts _ (List.mem_cons_of_mem _ kw_433)) (fun _ h9 => h9) rfl dX4_settle_39 ?_
        refine lv_iload_n hx hb dX4_settle_42 rfl (lv_at hl 2 rfl) ?_
        refine jv_iconst hx hb dX4_settle_43 ?_
        refine jv_iast (i := k) hx hb hK hm11 0 rfl (by omega) (by omega) (by decide) dX4_settle_44 (fun H f9 hn9 hz9 oq9 => ?_)
        have hPic := mW_arr hj hPic 11 (by omega) (by omega) oq9 hn9
        obtain ⟨A1, hA1⟩ : ∃ A9, A9 = jUp B 11 (jUp (B 11) k (0)) := ⟨_, rfl⟩
        rw [← hA1] at hPic
        have hT0 := hT0.put 11 (by omega) hz9 oq9 (f := f9)
        have hm0 := hPic.1
        have hm11 : va_at D vwCl (am 11, .inl (g 0, 128, .inl (fun j => jI (A1 11 j)))) H := hPic.2 11 (by omega) (by omega)
        refine lv_iinc (v := jI ((k : Int) + 1)) (lv' := [(2, .int (jI ((k : Int) + 1))), (0, .ref (am 0)), (1, .int (jI (mg)))]) hx hb dX4_settle_45 hl (k := 2) rfl (jI_add _ _) (by decide) rfl (fun ls hl => ?_)
        refine lv_goto (tgt := 31) hx hb dX4_settle_48 (by decide) ?_
        exact ih (k + 1, A1) H _ ls ⟨⟨by dsimp only; omega, dTrR hA1 (by decide) hR, fun j hj => by dsimp only at hj ⊢; rw [hA1, jUp_s, jUp_at]; by_cases h : j = k; (· rw [if_pos h]); (· rw [if_neg h]; exact hk3 j (by omega)), hPic, hT0⟩, lv_sub hl [1, 2, 0] rfl⟩ (by dsimp only; omega)
    · exact absurd c24 (by omega)
set_option maxHeartbeats 4000000 in
set_option maxRecDepth 100000 in
theorem k_settle1 (l : Launch) (D : va_G) (g : Nat → ClassId) (am : Nat → Nat) (cd dv vo ab be : Int) (AA : Nat → Nat → Int) (z : bSt) (hz : bOK z) (hR : mR z dv vo AA) (mg : Int) (hmg : 0 ≤ mg ∧ mg ≤ 10000) (pk : Nat → Nat) (hfr : fRow (bN z) (bU z) (bO z) (okf z mg) pk) (hj : mInj am) : Met l yX4_settle wsX4_settle ({ frames := 3, cells := 0, slots := 0, locals := 88 }) (pu_Pc [.ref (am 0), .int (jI (mg))] D vwCl (ty9 g) (fun H => mW D g am cd dv vo ab be AA H)) (mQ D g am (some (.int (jI (bI true)))) (fun c n v A _ _ => c = 0 ∧ mR (zCs z (bN z) pk) n v A)) 0 0 (mFr am) := by
  refine Met.ofW (cc := cX4_settle) (maxL := 4) (ret := some .boolean) (by decide) rfl ?_
  intro p e s m args below meth c s₁ B hml hv
  obtain ⟨rfl, hPic, hK⟩ := hv
  have hx := B.exec
  have hb := B.bytes
  have hr := B.returns
  have hts := atoms_spec (ws := wsX4_settle) B.pre
  have hown : s.vm.findClass RX4 = some m.cls := findClass_of_methodNamed B.named
  have hlocks := B.notSynchronized
  have hm0 := hPic.1
  have hm6 : va_at D vwCl (am 6, .inl (g 0, 8, .inl (fun j => jI (AA 6 j)))) s.heap := hPic.2 6 (by omega) (by omega)
  have hm9 : va_at D vwCl (am 9, .inl (g 0, 8, .inl (fun j => jI (AA 9 j)))) s.heap := hPic.2 9 (by omega) (by omega)
  have hm11 : va_at D vwCl (am 11, .inl (g 0, 128, .inl (fun j => jI (AA 11 j)))) s.heap := hPic.2 11 (by omega) (by omega)
  have hm12 : va_at D vwCl (am 12, .inl (g 0, 8, .inl (fun j => jI (AA 12 j)))) s.heap := hPic.2 12 (by omega) (by omega)
  have hdv := hR.1
  have hN := hz.1
  have hl := lv_entry ([.ref (am 0), .int (jI (mg))]) (n := 4) (Nat.le_of_ble_eq_true rfl)
  rw [lg_entry_eq]
  generalize (lg_sl ([.ref (am 0), .int (jI (mg))]) ++ List.replicate (4 - (lg_sl ([.ref (am 0), .int (jI (mg))])).length) Slot.unset).toArray = ls at hl ⊢
  have hl : lv_has ls 4 [(0, .ref (am 0)), (1, .int (jI (mg)))] := hl
  have hT0 : mTo am s.heap s.heap [] := mTo.rf
  refine lv_aload_n hx hb dX4_settle_0 rfl (lv_at hl 0 rfl) ?_
  refine lv_iload_n hx hb dX4_settle_1 rfl (lv_at hl 1 rfl) ?_
  refine jv_iconst hx hb dX4_settle_2 ?_
  refine jv_sipush hx hb dX4_settle_3 (by decide) ?_
  refine pu_call1 (va_runS (As := [.int (jI (mg)), .int (jI (0)), .int (jI (10000))]) (rest := [.ref (am 0)]) ⟨hx, hb, hml, hown, hts⟩ (k_in l D g mg 0 10000 (by omega) (by omega) (by omega)) (cwS 3 hts (gd_S kw_482 kw_483 kw_16 kcX4_in) rfl rfl rfl (by decide +kernel) ⟨Nat.le_of_ble_eq_true rfl, Nat.le_of_ble_eq_true rfl⟩) (pu_preS trivial hK) rfl rfl hl.1 rfl (lv_room (Nat.le_of_ble_eq_true rfl)) dX4_settle_6 ⟨Nat.zero_le _, Nat.zero_le _⟩) ?_
  refine jv_if_eq (tgt := 16) hx hb dX4_settle_9 (by decide) (bI_rng _) (fun c9 => ?_) (fun c9 => ?_)
  · exact absurd (bI_fa c9) (by rw [decide_eq_true (by omega)]; decide)
  · refine jv_iconst hx hb dX4_settle_12 ?_
    refine lv_goto (tgt := 17) hx hb dX4_settle_13 (by decide) ?_
    refine jv_put (D := D) (ci := 4) (v := .int (jI (0))) (ty := .int) (C := RX4) (T := TX4) (N := 17) hx hb hts (fun w h => List.mem_cons_of_mem _ (uw_X4 w h)) tyX4 tyX4_ok nmX4 hown hK hm0 rfl 0 (by decide) (hts _ (List.mem_cons_of_mem _ kw_418)) (fun _ h9 => h9) rfl (by decide +kernel) rfl rfl (Nat.le_of_ble_eq_true rfl) dX4_settle_17 (fun H f9 hn9 hz9 oq9 => ?_)
    have hPic : mW D g am 0 dv vo ab be AA H := mW_obj hj hPic oq9 hn9
    have hT0 := hT0.put 0 (by omega) hz9 oq9 (f := f9)
    have hm0 := hPic.1
    have hm6 : va_at D vwCl (am 6, .inl (g 0, 8, .inl (fun j => jI (AA 6 j)))) H := hPic.2 6 (by omega) (by omega)
    have hm9 : va_at D vwCl (am 9, .inl (g 0, 8, .inl (fun j => jI (AA 9 j)))) H := hPic.2 9 (by omega) (by omega)
    have hm11 : va_at D vwCl (am 11, .inl (g 0, 128, .inl (fun j => jI (AA 11 j)))) H := hPic.2 11 (by omega) (by omega)
    have hm12 : va_at D vwCl (am 12, .inl (g 0, 8, .inl (fun j => jI (AA 12 j)))) H := hPic.2 12 (by omega) (by omega)
    refine lv_aload_n hx hb dX4_settle_20 rfl (lv_at hl 0 rfl) ?_
    refine va_get (D := D) (ci := 4) (v := .int (jI (0))) (C := RX4) (T := TX4) (N := 17) hx hb hts (fun w h => List.mem_cons_of_mem _ (uw_X4 w h)) hown hK (j_P1 hm0) 0 rfl rfl 0 (by decide) (hts _ (List.mem_cons_of_mem _ kw_418)) (fun _ h9 => h9) rfl dX4_settle_21 ?_
    refine jv_if_le (tgt := 29) hx hb dX4_settle_24 (by decide) (by omega) (fun c24 => ?_) (fun c24 => ?_)
    · refine jv_iconst hx hb dX4_settle_29 ?_
      refine lv_istore_n (lv' := [(2, .int (jI (0))), (0, .ref (am 0)), (1, .int (jI (mg)))]) hx hb dX4_settle_30 rfl hl (by decide) rfl (fun ls hl => ?_)
      refine jw_loop3 (X := Nat × (Nat → Nat → Int)) (fun x => 128 - x.1) (fun x H L ls => (x.1 ≤ 128 ∧ mR z dv vo x.2 ∧ (∀ j, j < x.1 → x.2 11 j = 0) ∧ mW D g am 0 dv vo ab be x.2 H ∧ mTo am s.heap H L) ∧ lv_has ls 4 [(0, .ref (am 0)), (1, .int (jI (mg))), (2, .int (jI ((x.1 : Int))))]) ?_ (0, AA) H _ ls ⟨⟨by dsimp only; omega, hR, fun j hj => absurd hj (by dsimp only; omega), hPic, hT0⟩, lv_sub hl [1, 2, 0] rfl⟩
      clear hl hPic hT0 hR
      intro x H L ls hinv ih
      obtain ⟨k, B⟩ := x
      obtain ⟨⟨hk1, hR, hk3, hPic, hT0⟩, hl⟩ := hinv
      dsimp only at hk1 hR hk3 hPic
      have hl : lv_has ls 4 [(0, .ref (am 0)), (1, .int (jI (mg))), (2, .int (jI ((k : Int))))] := hl
      have hm0 := hPic.1
      have hm11 : va_at D vwCl (am 11, .inl (g 0, 128, .inl (fun j => jI (B 11 j)))) H := hPic.2 11 (by omega) (by omega)
      have hm12 : va_at D vwCl (am 12, .inl (g 0, 8, .inl (fun j => jI (B 12 j)))) H := hPic.2 12 (by omega) (by omega)
      refine lv_iload_n hx hb dX4_settle_31 rfl (lv_at hl 2 rfl) ?_
      refine jv_sipush hx hb dX4_settle_32 (by decide) ?_
      refine jv_icmp_ge (tgt := 51) hx hb dX4_settle_35 (by decide) (by omega) (by omega) (fun c35 => ?_) (fun c35 => ?_)
      · refine jv_iconst hx hb dX4_settle_51 ?_
        refine lv_istore_n (lv' := [(2, .int (jI (0))), (0, .ref (am 0)), (1, .int (jI (mg)))]) hx hb dX4_settle_52 rfl hl (by decide) rfl (fun ls hl => ?_)
        refine lv_aload_n hx hb dX4_settle_53 rfl (lv_at hl 1 rfl) ?_
        refine va_get (D := D) (ci := 4) (v := .ref (am 12)) (C := RX4) (T := TX4) (N := 17) hx hb hts (fun w h => List.mem_cons_of_mem _ (uw_X4 w h)) hown hK (j_P1 hm0) 0 rfl rfl 16 (by decide) (hts _ (List.mem_cons_of_mem _ kw_434)) (fun _ h9 => h9) rfl dX4_settle_54 ?_
        refine jv_iconst hx hb dX4_settle_57 ?_
        refine jv_iconst hx hb dX4_settle_58 ?_
        refine jv_iast (i := 0) hx hb hK hm12 0 rfl (by omega) (by omega) (by decide) dX4_settle_59 (fun H f9 hn9 hz9 oq9 => ?_)
        have hPic := mW_arr hj hPic 12 (by omega) (by omega) oq9 hn9
        obtain ⟨A2, hA2⟩ : ∃ A9, A9 = jUp B 12 (jUp (B 12) 0 (0)) := ⟨_, rfl⟩
        rw [← hA2] at hPic
        have hT0 := hT0.put 12 (by omega) hz9 oq9 (f := f9)
        have hm0 := hPic.1
        have hm6 : va_at D vwCl (am 6, .inl (g 0, 8, .inl (fun j => jI (A2 6 j)))) H := hPic.2 6 (by omega) (by omega)
        have hm9 : va_at D vwCl (am 9, .inl (g 0, 8, .inl (fun j => jI (A2 9 j)))) H := hPic.2 9 (by omega) (by omega)
        have hm11 : va_at D vwCl (am 11, .inl (g 0, 128, .inl (fun j => jI (A2 11 j)))) H := hPic.2 11 (by omega) (by omega)
        have hm12 : va_at D vwCl (am 12, .inl (g 0, 8, .inl (fun j => jI (A2 12 j)))) H := hPic.2 12 (by omega) (by omega)
        have hmem : mMem z mg (A2 11) := by rw [hA2, jUp_n (by decide)]; exact fun i j u k a1 a2 a3 a4 => Or.inl (hk3 _ (by have h1 := hz.2.2.1 i (by omega); have h2 := hz.2.2.2 i u a1 a2; have h3 := hz.2.2.1 u (by omega); omega))
        have hR := dTrR hA2 (by decide) hR
        refine jw_loop3 (X := Int × Nat × (Nat → Nat) × (Nat → Nat → Int) × Int × Int) (fun x => dMu (bN z) x.2.1 x.2.2.1) (fun x H L ls => (x.1 = (x.2.1 : Int) - 1 ∧ dInv (bN z) (bU z) (bO z) (okf z mg) x.2.1 x.2.2.1 ∧ (∀ i, i < x.2.1 → i < bN z → x.2.2.2.1 12 i = (x.2.2.1 i : Int)) ∧ mMem z mg (x.2.2.2.1 11) ∧ mR z dv vo x.2.2.2.1 ∧ mW D g am 0 dv vo x.2.2.2.2.1 x.2.2.2.2.2 x.2.2.2.1 H ∧ mTo am s.heap H L) ∧ lv_has ls 4 [(0, .ref (am 0)), (1, .int (jI (mg))), (2, .int (jI (x.1)))]) ?_ (0, 1, fun _ => 0, A2, ab, be) H _ ls ⟨⟨by dsimp only; omega, dInv_start _ rfl, fun i h1 h2 => by dsimp only at h1 ⊢; rw [show i = 0 by omega, hA2, jUp_s, jUp_s]; rfl, hmem, hR, hPic, hT0⟩, lv_sub hl [1, 2, 0] rfl⟩
        clear hl hPic hT0 hR hmem hk3 ih hm11 hm12 hm0 hk1 c35
        clear hA2
        intro x H L ls hinv ih
        obtain ⟨q, e9, t, B, a1, b1⟩ := x
        obtain ⟨⟨hq, hdI, ht, hmem, hR, hPic, hT0⟩, hl⟩ := hinv
        dsimp only at hq hdI ht hmem hR hPic
        have hl : lv_has ls 4 [(0, .ref (am 0)), (1, .int (jI (mg))), (2, .int (jI (q)))] := hl
        have hup : ∀ i u, i < bN z → bU z i = some u → u < i := hz.2.2.2
        have hop4 : ∀ i, i < bN z → bO z i ≤ 4 := fun i hi => (hz.2.2.1 i (by omega)).2.1
        rcases (show (e9 = 0 ∧ q = -1) ∨ ∃ d, e9 = d + 1 ∧ q = ((d : Nat) : Int) by cases e9 with | zero => exact Or.inl ⟨rfl, by omega⟩ | succ d => exact Or.inr ⟨d, rfl, by omega⟩) with ⟨rfl, rfl⟩ | ⟨d, rfl, rfl⟩
        · exact absurd hfr.1 (hdI.2.1 rfl pk)
        · have hm0 := hPic.1
          have hm6 : va_at D vwCl (am 6, .inl (g 0, 8, .inl (fun j => jI (B 6 j)))) H := hPic.2 6 (by omega) (by omega)
          have hm9 : va_at D vwCl (am 9, .inl (g 0, 8, .inl (fun j => jI (B 9 j)))) H := hPic.2 9 (by omega) (by omega)
          have hm11 : va_at D vwCl (am 11, .inl (g 0, 128, .inl (fun j => jI (B 11 j)))) H := hPic.2 11 (by omega) (by omega)
          have hm12 : va_at D vwCl (am 12, .inl (g 0, 8, .inl (fun j => jI (B 12 j)))) H := hPic.2 12 (by omega) (by omega)
          have hde := hdI.1
          refine lv_iload_n hx hb dX4_settle_60 rfl (lv_at hl 2 rfl) ?_
          refine jv_if_lt (tgt := 150) hx hb dX4_settle_61 (by decide) (by omega) (fun c61 => ?_) (fun c61 => ?_)
          · exact absurd c61 (by omega)
          · refine lv_iload_n hx hb dX4_settle_64 rfl (lv_at hl 2 rfl) ?_
            refine lv_aload_n hx hb dX4_settle_65 rfl (lv_at hl 0 rfl) ?_
            refine va_get (D := D) (ci := 4) (v := .int (jI (dv))) (C := RX4) (T := TX4) (N := 17) hx hb hts (fun w h => List.mem_cons_of_mem _ (uw_X4 w h)) hown hK (j_P1 hm0) 0 rfl rfl 1 (by decide) (hts _ (List.mem_cons_of_mem _ kw_419)) (fun _ h9 => h9) rfl dX4_settle_66 ?_
            refine jv_icmp_ge (tgt := 150) hx hb dX4_settle_69 (by decide) (by omega) (by omega) (fun c69 => ?_) (fun c69 => ?_)
            · refine jv_iconst hx hb dX4_settle_150 ?_
              refine lv_istore_n (lv' := [(3, .int (jI (0))), (0, .ref (am 0)), (1, .int (jI (mg))), (2, .int (jI ((d : Int))))]) hx hb dX4_settle_151 rfl hl (by decide) rfl (fun ls hl => ?_)
              have hdn : d = bN z := by have := hdI.1; omega
              rw [hdn] at hdI
              have hft := dInv_end hdI
              refine jw_loop3 (X := Nat × (Nat → Nat → Int)) (fun x => bN z - x.1) (fun x H L ls => (x.1 ≤ bN z ∧ (∀ a, a ≤ 12 → a ≠ 9 → x.2 a = B a) ∧ (∀ i, i < x.1 → x.2 9 i = (t i : Int)) ∧ mW D g am 0 dv vo a1 b1 x.2 H ∧ mTo am s.heap H L) ∧ lv_has ls 4 [(0, .ref (am 0)), (1, .int (jI (mg))), (2, .int (jI ((d : Int)))), (3, .int (jI ((x.1 : Int))))]) ?_ (0, B) H _ ls ⟨⟨by dsimp only; omega, fun _ _ _ => rfl, fun i hi => absurd hi (by dsimp only; omega), hPic, hT0⟩, lv_sub hl [1, 2, 3, 0] rfl⟩
              clear hl hPic hT0 ih
              intro x H L ls hinv ih
              obtain ⟨k, B2⟩ := x
              obtain ⟨⟨hk1, hk2, hk3, hPic, hT0⟩, hl⟩ := hinv
              dsimp only at hk1 hk2 hk3 hPic
              have hl : lv_has ls 4 [(0, .ref (am 0)), (1, .int (jI (mg))), (2, .int (jI ((d : Int)))), (3, .int (jI ((k : Int))))] := hl
              have hm0 := hPic.1
              have hm9 : va_at D vwCl (am 9, .inl (g 0, 8, .inl (fun j => jI (B2 9 j)))) H := hPic.2 9 (by omega) (by omega)
              have hm12 : va_at D vwCl (am 12, .inl (g 0, 8, .inl (fun j => jI (B2 12 j)))) H := hPic.2 12 (by omega) (by omega)
              refine lv_iload_n hx hb dX4_settle_152 rfl (lv_at hl 3 rfl) ?_
              refine lv_aload_n hx hb dX4_settle_153 rfl (lv_at hl 0 rfl) ?_
              refine va_get (D := D) (ci := 4) (v := .int (jI (dv))) (C := RX4) (T := TX4) (N := 17) hx hb hts (fun w h => List.mem_cons_of_mem _ (uw_X4 w h)) hown hK (j_P1 hm0) 0 rfl rfl 1 (by decide) (hts _ (List.mem_cons_of_mem _ kw_419)) (fun _ h9 => h9) rfl dX4_settle_154 ?_
              refine jv_icmp_ge (tgt := 182) hx hb dX4_settle_157 (by decide) (by omega) (by omega) (fun c157 => ?_) (fun c157 => ?_)
              · refine lv_iload_n hx hb dX4_settle_182 rfl (lv_at hl 2 rfl) ?_
                refine jv_if_lt (tgt := 190) hx hb dX4_settle_183 (by decide) (by omega) (fun c183 => ?_) (fun c183 => ?_)
                · exact absurd c183 (by omega)
                · refine jv_iconst hx hb dX4_settle_186 ?_
                  refine lv_goto (tgt := 191) hx hb dX4_settle_187 (by decide) ?_
                  exact m_zret hx hb hr hlocks dX4_settle_191 ⟨rfl, mR_Cs hR (fun a h1 h2 => hk2 a (by omega) h2) (fun i hi => by rw [hk3 i (by omega), fRow_eq hft hfr i hi])⟩ hPic hT0 (by rfl)
              · refine lv_iload_n hx hb dX4_settle_160 rfl (lv_at hl 2 rfl) ?_
                refine jv_if_lt (tgt := 182) hx hb dX4_settle_161 (by decide) (by omega) (fun c161 => ?_) (fun c161 => ?_)
                · exact absurd c161 (by omega)
                · have htk : B2 12 k = (t k : Int) := by rw [hk2 12 (by decide) (by decide)]; exact ht k (by omega) (by omega)
                  refine lv_aload_n hx hb dX4_settle_164 rfl (lv_at hl 0 rfl) ?_
                  refine va_get (D := D) (ci := 4) (v := .ref (am 9)) (C := RX4) (T := TX4) (N := 17) hx hb hts (fun w h => List.mem_cons_of_mem _ (uw_X4 w h)) hown hK (j_P1 hm0) 0 rfl rfl 10 (by decide) (hts _ (List.mem_cons_of_mem _ kw_428)) (fun _ h9 => h9) rfl dX4_settle_165 ?_
                  refine lv_iload_n hx hb dX4_settle_168 rfl (lv_at hl 3 rfl) ?_
                  refine lv_aload_n hx hb dX4_settle_169 rfl (lv_at hl 0 rfl) ?_
                  refine va_get (D := D) (ci := 4) (v := .ref (am 12)) (C := RX4) (T := TX4) (N := 17) hx hb hts (fun w h => List.mem_cons_of_mem _ (uw_X4 w h)) hown hK (j_P1 hm0) 0 rfl rfl 16 (by decide) (hts _ (List.mem_cons_of_mem _ kw_434)) (fun _ h9 => h9) rfl dX4_settle_170 ?_
                  refine lv_iload_n hx hb dX4_settle_173 rfl (lv_at hl 3 rfl) ?_
                  refine jv_iald (i := k) hx hb hK hm12 0 rfl (by omega) (by omega) (by decide) dX4_settle_174 ?_
                  rw [htk]
                  refine jv_iast (i := k) hx hb hK hm9 0 rfl (by omega) (by omega) (by decide) dX4_settle_175 (fun H f9 hn9 hz9 oq9 => ?_)
                  have hPic := mW_arr hj hPic 9 (by omega) (by omega) oq9 hn9
                  obtain ⟨A1, hA1⟩ : ∃ A9, A9 = jUp B2 9 (jUp (B2 9) k ((t k : Int))) := ⟨_, rfl⟩
                  rw [← hA1] at hPic
                  have hT0 := hT0.put 9 (by omega) hz9 oq9 (f := f9)
                  have hm0 := hPic.1
                  have hm9 : va_at D vwCl (am 9, .inl (g 0, 8, .inl (fun j => jI (A1 9 j)))) H := hPic.2 9 (by omega) (by omega)
                  refine lv_iinc (v := jI ((k : Int) + 1)) (lv' := [(3, .int (jI ((k : Int) + 1))), (0, .ref (am 0)), (1, .int (jI (mg))), (2, .int (jI ((d : Int))))]) hx hb dX4_settle_176 hl (k := 3) rfl (jI_add _ _) (by decide) rfl (fun ls hl => ?_)
                  refine lv_goto (tgt := 152) hx hb dX4_settle_179 (by decide) ?_
                  exact ih (k + 1, A1) H _ ls ⟨⟨by dsimp only; omega, fun a h1 h2 => by dsimp only; rw [hA1, jUp_n h2]; exact hk2 a h1 h2, fun i hi => by dsimp only at hi ⊢; rw [hA1, jUp_s, jUp_at]; by_cases h : i = k; (· rw [if_pos h, h]); (· rw [if_neg h]; exact hk3 i (by omega)), hPic, hT0⟩, lv_sub hl [1, 2, 3, 0] rfl⟩ (by dsimp only; omega)
            · have htd0 : B 12 d = (t d : Int) := ht d (by omega) (by omega)
              obtain ⟨-, -, -, e6_d, -⟩ := hR.2.2 d (by omega)
              have o4 := hop4 d (by omega)
              have td4 := hdI.2.2.2.1 d rfl (by omega)
              refine lv_aload_n hx hb dX4_settle_72 rfl (lv_at hl 0 rfl) ?_
              refine va_get (D := D) (ci := 4) (v := .ref (am 12)) (C := RX4) (T := TX4) (N := 17) hx hb hts (fun w h => List.mem_cons_of_mem _ (uw_X4 w h)) hown hK (j_P1 hm0) 0 rfl rfl 16 (by decide) (hts _ (List.mem_cons_of_mem _ kw_434)) (fun _ h9 => h9) rfl dX4_settle_73 ?_
              refine lv_iload_n hx hb dX4_settle_76 rfl (lv_at hl 2 rfl) ?_
              refine jv_iald (i := d) hx hb hK hm12 0 rfl (by omega) (by omega) (by decide) dX4_settle_77 ?_
              rw [htd0]
              refine lv_aload_n hx hb dX4_settle_78 rfl (lv_at hl 0 rfl) ?_
              refine va_get (D := D) (ci := 4) (v := .ref (am 6)) (C := RX4) (T := TX4) (N := 17) hx hb hts (fun w h => List.mem_cons_of_mem _ (uw_X4 w h)) hown hK (j_P1 hm0) 0 rfl rfl 7 (by decide) (hts _ (List.mem_cons_of_mem _ kw_425)) (fun _ h9 => h9) rfl dX4_settle_79 ?_
              refine lv_iload_n hx hb dX4_settle_82 rfl (lv_at hl 2 rfl) ?_
              refine jv_iald (i := d) hx hb hK hm6 0 rfl (by omega) (by omega) (by decide) dX4_settle_83 ?_
              rw [e6_d]
              refine jv_icmp_ne (tgt := 107) hx hb dX4_settle_84 (by decide) (by omega) (by omega) (fun c84 => ?_) (fun c84 => ?_)
              · refine lv_aload_n hx hb dX4_settle_107 rfl (lv_at hl 0 rfl) ?_
                refine lv_iload_n hx hb dX4_settle_108 rfl (lv_at hl 2 rfl) ?_
                refine lv_iload_n hx hb dX4_settle_109 rfl (lv_at hl 1 rfl) ?_
                have htd : t d < bO z d := by have := hdI.2.2.2.1 d rfl (by omega); omega
                cases hU : bU z d with
                | none =>
                  refine m_call (va_runV (As := [.int (jI ((d : Int))), .int (jI (mg))]) (rest := []) ⟨hx, hb, hml, hown, hts⟩ (k_fits0 l D g am 0 dv vo a1 b1 B z hz hR d mg (by omega) hU hj) (cwV 2 hts (gd_V kw_535 kw_537 kw_8 kw_16 kcX4_fits) rfl rfl rfl (by decide +kernel) ⟨Nat.le_of_ble_eq_true rfl, Nat.le_of_ble_eq_true rfl⟩) (pu_preV hPic hK rfl hm0) rfl rfl hl.1 rfl (lv_room (Nat.le_of_ble_eq_true rfl)) dX4_settle_110 ⟨Nat.zero_le _, Nat.zero_le _⟩) hT0 (fun H locs cd9 dv9 vo9 AA9 ab9 be9 hPh hPic hT0 => ?_)
                  refine W.eq (g2 := F0 m 113 ls [.int (jI (bI true))]) rfl ?_
                  obtain ⟨q1, q2, q3, q4⟩ := hPh
                  rw [q1, q2, q3, q4] at hPic
                  have hm0 := hPic.1
                  have hm6 : va_at D vwCl (am 6, .inl (g 0, 8, .inl (fun j => jI (B 6 j)))) H := hPic.2 6 (by omega) (by omega)
                  have hm9 : va_at D vwCl (am 9, .inl (g 0, 8, .inl (fun j => jI (B 9 j)))) H := hPic.2 9 (by omega) (by omega)
                  have hm11 : va_at D vwCl (am 11, .inl (g 0, 128, .inl (fun j => jI (B 11 j)))) H := hPic.2 11 (by omega) (by omega)
                  have hm12 : va_at D vwCl (am 12, .inl (g 0, 8, .inl (fun j => jI (B 12 j)))) H := hPic.2 12 (by omega) (by omega)
                  refine jv_if_eq (tgt := 137) hx hb dX4_settle_113 (by decide) (bI_rng _) (fun c113 => ?_) (fun c113 => ?_)
                  · exact absurd c113 (by decide)
                  · refine lv_iinc (v := jI ((d : Int) + 1)) (lv' := [(2, .int (jI ((d : Int) + 1))), (0, .ref (am 0)), (1, .int (jI (mg)))]) hx hb dX4_settle_116 hl (k := 2) rfl (jI_add _ _) (by decide) rfl (fun ls hl => ?_)
                    refine lv_iload_n hx hb dX4_settle_119 rfl (lv_at hl 0 rfl) ?_
                    refine lv_aload_n hx hb dX4_settle_120 rfl (lv_at hl 1 rfl) ?_
                    refine va_get (D := D) (ci := 4) (v := .int (jI (dv))) (C := RX4) (T := TX4) (N := 17) hx hb hts (fun w h => List.mem_cons_of_mem _ (uw_X4 w h)) hown hK (j_P1 hm0) 0 rfl rfl 1 (by decide) (hts _ (List.mem_cons_of_mem _ kw_419)) (fun _ h9 => h9) rfl dX4_settle_121 ?_
                    refine jv_icmp_ge (tgt := 60) hx hb dX4_settle_124 (by decide) (by omega) (by omega) (fun c124 => ?_) (fun c124 => ?_)
                    · have hd9 := dInv_fwd (t' := t) hup hdI (by omega) htd (fun u' hu' => by rw [hU] at hu'; cases hu') (fun _ _ => rfl) (fun h => absurd h (by omega))
                      exact ih ((d : Int) + 1, d + 2, t, B, ab9, be9) H _ ls ⟨⟨by dsimp only; omega, hd9, fun i h1 h2 => ht i (by omega) h2, hmem, hR, hPic, hT0⟩, lv_sub hl [1, 2, 0] rfl⟩ (dMu_fwd (by omega) hd9 hop4 (by omega) (fun _ _ => rfl) (fun h => absurd h (by omega)))
                    · refine lv_aload_n hx hb dX4_settle_127 rfl (lv_at hl 1 rfl) ?_
                      refine va_get (D := D) (ci := 4) (v := .ref (am 12)) (C := RX4) (T := TX4) (N := 17) hx hb hts (fun w h => List.mem_cons_of_mem _ (uw_X4 w h)) hown hK (j_P1 hm0) 0 rfl rfl 16 (by decide) (hts _ (List.mem_cons_of_mem _ kw_434)) (fun _ h9 => h9) rfl dX4_settle_128 ?_
                      refine lv_iload_n hx hb dX4_settle_131 rfl (lv_at hl 0 rfl) ?_
                      refine jv_iconst hx hb dX4_settle_132 ?_
                      refine jv_iast (i := (d + 1)) hx hb hK hm12 0 rfl (by omega) (by omega) (by decide) dX4_settle_133 (fun H f9 hn9 hz9 oq9 => ?_)
                      have hPic := mW_arr hj hPic 12 (by omega) (by omega) oq9 hn9
                      obtain ⟨A1, hA1⟩ : ∃ A9, A9 = jUp B 12 (jUp (B 12) (d + 1) (0)) := ⟨_, rfl⟩
                      rw [← hA1] at hPic
                      have hT0 := hT0.put 12 (by omega) hz9 oq9 (f := f9)
                      have hm0 := hPic.1
                      have hm6 : va_at D vwCl (am 6, .inl (g 0, 8, .inl (fun j => jI (A1 6 j)))) H := hPic.2 6 (by omega) (by omega)
                      have hm9 : va_at D vwCl (am 9, .inl (g 0, 8, .inl (fun j => jI (A1 9 j)))) H := hPic.2 9 (by omega) (by omega)
                      have hm11 : va_at D vwCl (am 11, .inl (g 0, 128, .inl (fun j => jI (A1 11 j)))) H := hPic.2 11 (by omega) (by omega)
                      have hm12 : va_at D vwCl (am 12, .inl (g 0, 8, .inl (fun j => jI (A1 12 j)))) H := hPic.2 12 (by omega) (by omega)
                      refine lv_goto (tgt := 60) hx hb dX4_settle_134 (by decide) ?_
                      have hd9 := dInv_fwd (t' := jUp t (d + 1) 0) hup hdI (by omega) htd (fun u' hu' => by rw [hU] at hu'; cases hu') (fun i hi => jUp_n (by omega)) (fun _ => jUp_s _ _ _)
                      exact ih ((d : Int) + 1, d + 2, jUp t (d + 1) 0, A1, ab9, be9) H _ ls ⟨⟨by dsimp only; omega, hd9, dTr (v := 0) (e := d + 1) (e' := d + 2) hA1 rfl ht (fun i h1 h2 => by omega), dTrM hA1 hmem, dTrR hA1 (by decide) hR, hPic, hT0⟩, lv_sub hl [1, 2, 0] rfl⟩ (dMu_fwd (by omega) hd9 hop4 (by omega) (fun i hi => jUp_n (by omega)) (fun _ => jUp_s _ _ _))
                | some u =>
                  have huL := hup d u (by omega) hU
                  refine m_call (va_runV (As := [.int (jI ((d : Int))), .int (jI (mg))]) (rest := []) ⟨hx, hb, hml, hown, hts⟩ (k_fits1 l D g am 0 dv vo a1 b1 B z hz hR d u (t d) (t u) mg (by omega) hU hmg hmem (ht d (by omega) (by omega)) (ht u (by omega) (by omega)) htd (hdI.2.2.1 u (by omega)).1 hj) (cwV 2 hts (gd_V kw_535 kw_537 kw_8 kw_16 kcX4_fits) rfl rfl rfl (by decide +kernel) ⟨Nat.le_of_ble_eq_true rfl, Nat.le_of_ble_eq_true rfl⟩) (pu_preV hPic hK rfl hm0) rfl rfl hl.1 rfl (lv_room (Nat.le_of_ble_eq_true rfl)) dX4_settle_110 ⟨Nat.zero_le _, Nat.zero_le _⟩) hT0 (fun H locs cd9 dv9 vo9 AA9 ab9 be9 hPh hPic hT0 => ?_)
                  refine W.eq (g2 := F0 m 113 ls [.int (jI (bI (okb z mg d (t d) u (t u))))]) rfl ?_
                  obtain ⟨q1, q2, q3, q4, q5⟩ := hPh
                  rw [q1, q2, q3] at hPic
                  have hm0 := hPic.1
                  have hm6 : va_at D vwCl (am 6, .inl (g 0, 8, .inl (fun j => jI (AA9 6 j)))) H := hPic.2 6 (by omega) (by omega)
                  have hm9 : va_at D vwCl (am 9, .inl (g 0, 8, .inl (fun j => jI (AA9 9 j)))) H := hPic.2 9 (by omega) (by omega)
                  have hm11 : va_at D vwCl (am 11, .inl (g 0, 128, .inl (fun j => jI (AA9 11 j)))) H := hPic.2 11 (by omega) (by omega)
                  have hm12 : va_at D vwCl (am 12, .inl (g 0, 8, .inl (fun j => jI (AA9 12 j)))) H := hPic.2 12 (by omega) (by omega)
                  have hR := mR_ext hR (fun a ha => q4 a (by omega))
                  have ht : ∀ i, i < d + 1 → i < bN z → AA9 12 i = (t i : Int) := fun i h1 h2 => by rw [q4 12 (by decide)]; exact ht i h1 h2
                  have htd0 : AA9 12 d = (t d : Int) := ht d (by omega) (by omega)
                  have hmem := q5
                  refine jv_if_eq (tgt := 137) hx hb dX4_settle_113 (by decide) (bI_rng _) (fun c113 => ?_) (fun c113 => ?_)
                  · refine lv_aload_n hx hb dX4_settle_137 rfl (lv_at hl 0 rfl) ?_
                    refine va_get (D := D) (ci := 4) (v := .ref (am 12)) (C := RX4) (T := TX4) (N := 17) hx hb hts (fun w h => List.mem_cons_of_mem _ (uw_X4 w h)) hown hK (j_P1 hm0) 0 rfl rfl 16 (by decide) (hts _ (List.mem_cons_of_mem _ kw_434)) (fun _ h9 => h9) rfl dX4_settle_138 ?_
                    refine lv_iload_n hx hb dX4_settle_141 rfl (lv_at hl 2 rfl) ?_
                    refine lv_dup2_11 hx hb dX4_settle_142 rfl rfl ?_
                    refine jv_iald (i := d) hx hb hK hm12 0 rfl (by omega) (by omega) (by decide) dX4_settle_143 ?_
                    rw [htd0]
                    refine jv_iconst hx hb dX4_settle_144 ?_
                    refine jv_iadd hx hb dX4_settle_145 ?_
                    refine jv_iast (i := d) hx hb hK hm12 0 rfl (by omega) (by omega) (by decide) dX4_settle_146 (fun H f9 hn9 hz9 oq9 => ?_)
                    have hPic := mW_arr hj hPic 12 (by omega) (by omega) oq9 hn9
                    obtain ⟨A1, hA1⟩ : ∃ A9, A9 = jUp AA9 12 (jUp (AA9 12) d ((t d : Int) + 1)) := ⟨_, rfl⟩
                    rw [← hA1] at hPic
                    have hT0 := hT0.put 12 (by omega) hz9 oq9 (f := f9)
                    have hm0 := hPic.1
                    have hm6 : va_at D vwCl (am 6, .inl (g 0, 8, .inl (fun j => jI (A1 6 j)))) H := hPic.2 6 (by omega) (by omega)
                    have hm9 : va_at D vwCl (am 9, .inl (g 0, 8, .inl (fun j => jI (A1 9 j)))) H := hPic.2 9 (by omega) (by omega)
                    have hm11 : va_at D vwCl (am 11, .inl (g 0, 128, .inl (fun j => jI (A1 11 j)))) H := hPic.2 11 (by omega) (by omega)
                    have hm12 : va_at D vwCl (am 12, .inl (g 0, 8, .inl (fun j => jI (A1 12 j)))) H := hPic.2 12 (by omega) (by omega)
                    refine lv_goto (tgt := 60) hx hb dX4_settle_147 (by decide) ?_
                    have hd9 := dInv_next hup hdI (by omega) htd ⟨u, hU, by rw [okf_some hU]; exact bI_fa c113⟩
                    exact ih ((d : Int), d + 1, jUp t d (t d + 1), A1, ab9, be9) H _ ls ⟨⟨by dsimp only; omega, hd9, dTr (v := t d + 1) (e := d + 1) (e' := d + 1) hA1 (by omega) ht (fun i h1 h2 => h1), dTrM hA1 hmem, dTrR hA1 (by decide) hR, hPic, hT0⟩, lv_sub hl [0, 1, 2] rfl⟩ (dMu_next (by omega) hd9 hop4 (by omega))
                  · refine lv_iinc (v := jI ((d : Int) + 1)) (lv' := [(2, .int (jI ((d : Int) + 1))), (0, .ref (am 0)), (1, .int (jI (mg)))]) hx hb dX4_settle_116 hl (k := 2) rfl (jI_add _ _) (by decide) rfl (fun ls hl => ?_)
                    refine lv_iload_n hx hb dX4_settle_119 rfl (lv_at hl 0 rfl) ?_
                    refine lv_aload_n hx hb dX4_settle_120 rfl (lv_at hl 1 rfl) ?_
                    refine va_get (D := D) (ci := 4) (v := .int (jI (dv))) (C := RX4) (T := TX4) (N := 17) hx hb hts (fun w h => List.mem_cons_of_mem _ (uw_X4 w h)) hown hK (j_P1 hm0) 0 rfl rfl 1 (by decide) (hts _ (List.mem_cons_of_mem _ kw_419)) (fun _ h9 => h9) rfl dX4_settle_121 ?_
                    refine jv_icmp_ge (tgt := 60) hx hb dX4_settle_124 (by decide) (by omega) (by omega) (fun c124 => ?_) (fun c124 => ?_)
                    · have hd9 := dInv_fwd (t' := t) hup hdI (by omega) htd (fun u' hu' => by rw [hU] at hu'; cases hu'; rw [okf_some hU]; exact bI_tr c113) (fun _ _ => rfl) (fun h => absurd h (by omega))
                      exact ih ((d : Int) + 1, d + 2, t, AA9, ab9, be9) H _ ls ⟨⟨by dsimp only; omega, hd9, fun i h1 h2 => ht i (by omega) h2, hmem, hR, hPic, hT0⟩, lv_sub hl [1, 2, 0] rfl⟩ (dMu_fwd (by omega) hd9 hop4 (by omega) (fun _ _ => rfl) (fun h => absurd h (by omega)))
                    · refine lv_aload_n hx hb dX4_settle_127 rfl (lv_at hl 1 rfl) ?_
                      refine va_get (D := D) (ci := 4) (v := .ref (am 12)) (C := RX4) (T := TX4) (N := 17) hx hb hts (fun w h => List.mem_cons_of_mem _ (uw_X4 w h)) hown hK (j_P1 hm0) 0 rfl rfl 16 (by decide) (hts _ (List.mem_cons_of_mem _ kw_434)) (fun _ h9 => h9) rfl dX4_settle_128 ?_
                      refine lv_iload_n hx hb dX4_settle_131 rfl (lv_at hl 0 rfl) ?_
                      refine jv_iconst hx hb dX4_settle_132 ?_
                      refine jv_iast (i := (d + 1)) hx hb hK hm12 0 rfl (by omega) (by omega) (by decide) dX4_settle_133 (fun H f9 hn9 hz9 oq9 => ?_)
                      have hPic := mW_arr hj hPic 12 (by omega) (by omega) oq9 hn9
                      obtain ⟨A1, hA1⟩ : ∃ A9, A9 = jUp AA9 12 (jUp (AA9 12) (d + 1) (0)) := ⟨_, rfl⟩
                      rw [← hA1] at hPic
                      have hT0 := hT0.put 12 (by omega) hz9 oq9 (f := f9)
                      have hm0 := hPic.1
                      have hm6 : va_at D vwCl (am 6, .inl (g 0, 8, .inl (fun j => jI (A1 6 j)))) H := hPic.2 6 (by omega) (by omega)
                      have hm9 : va_at D vwCl (am 9, .inl (g 0, 8, .inl (fun j => jI (A1 9 j)))) H := hPic.2 9 (by omega) (by omega)
                      have hm11 : va_at D vwCl (am 11, .inl (g 0, 128, .inl (fun j => jI (A1 11 j)))) H := hPic.2 11 (by omega) (by omega)
                      have hm12 : va_at D vwCl (am 12, .inl (g 0, 8, .inl (fun j => jI (A1 12 j)))) H := hPic.2 12 (by omega) (by omega)
                      refine lv_goto (tgt := 60) hx hb dX4_settle_134 (by decide) ?_
                      have hd9 := dInv_fwd (t' := jUp t (d + 1) 0) hup hdI (by omega) htd (fun u' hu' => by rw [hU] at hu'; cases hu'; rw [okf_some hU]; exact bI_tr c113) (fun i hi => jUp_n (by omega)) (fun _ => jUp_s _ _ _)
                      exact ih ((d : Int) + 1, d + 2, jUp t (d + 1) 0, A1, ab9, be9) H _ ls ⟨⟨by dsimp only; omega, hd9, dTr (v := 0) (e := d + 1) (e' := d + 2) hA1 rfl ht (fun i h1 h2 => by omega), dTrM hA1 hmem, dTrR hA1 (by decide) hR, hPic, hT0⟩, lv_sub hl [1, 2, 0] rfl⟩ (dMu_fwd (by omega) hd9 hop4 (by omega) (fun i hi => jUp_n (by omega)) (fun _ => jUp_s _ _ _))
              · refine lv_iinc (v := jI ((d : Int) + (-1))) (lv' := [(2, .int (jI ((d : Int) + (-1)))), (0, .ref (am 0)), (1, .int (jI (mg)))]) hx hb dX4_settle_87 hl (k := 2) rfl (jI_add _ _) (by decide) rfl (fun ls hl => ?_)
                refine lv_iload_n hx hb dX4_settle_90 rfl (lv_at hl 0 rfl) ?_
                refine jv_if_lt (tgt := 60) hx hb dX4_settle_91 (by decide) (by omega) (fun c91 => ?_) (fun c91 => ?_)
                · have hd0 : d = 0 := by omega
                  subst hd0
                  have hd9 := dInv_out hdI (by omega) (by omega)
                  exact ih (((0 : Nat) : Int) + (-1), 0, t, B, a1, b1) H _ ls ⟨⟨by dsimp only; omega, hd9, fun i h1 => absurd h1 (by dsimp only; omega), hmem, hR, hPic, hT0⟩, lv_sub hl [1, 2, 0] rfl⟩ (dMu_out (by omega) hdI hop4)
                · have htp : B 12 (d - 1) = (t (d - 1) : Int) := ht (d - 1) (by omega) (by omega)
                  refine lv_aload_n hx hb dX4_settle_94 rfl (lv_at hl 1 rfl) ?_
                  refine va_get (D := D) (ci := 4) (v := .ref (am 12)) (C := RX4) (T := TX4) (N := 17) hx hb hts (fun w h => List.mem_cons_of_mem _ (uw_X4 w h)) hown hK (j_P1 hm0) 0 rfl rfl 16 (by decide) (hts _ (List.mem_cons_of_mem _ kw_434)) (fun _ h9 => h9) rfl dX4_settle_95 ?_
                  refine lv_iload_n hx hb dX4_settle_98 rfl (lv_at hl 0 rfl) ?_
                  refine lv_dup2_11 hx hb dX4_settle_99 rfl rfl ?_
                  refine jv_iald (i := (d - 1)) hx hb hK hm12 0 rfl (by omega) (by omega) (by decide) dX4_settle_100 ?_
                  rw [htp]
                  refine jv_iconst hx hb dX4_settle_101 ?_
                  refine jv_iadd hx hb dX4_settle_102 ?_
                  refine jv_iast (i := (d - 1)) hx hb hK hm12 0 rfl (by omega) (by omega) (by decide) dX4_settle_103 (fun H f9 hn9 hz9 oq9 => ?_)
                  have hPic := mW_arr hj hPic 12 (by omega) (by omega) oq9 hn9
                  obtain ⟨A1, hA1⟩ : ∃ A9, A9 = jUp B 12 (jUp (B 12) (d - 1) ((t (d - 1) : Int) + 1)) := ⟨_, rfl⟩
                  rw [← hA1] at hPic
                  have hT0 := hT0.put 12 (by omega) hz9 oq9 (f := f9)
                  have hm0 := hPic.1
                  have hm6 : va_at D vwCl (am 6, .inl (g 0, 8, .inl (fun j => jI (A1 6 j)))) H := hPic.2 6 (by omega) (by omega)
                  have hm9 : va_at D vwCl (am 9, .inl (g 0, 8, .inl (fun j => jI (A1 9 j)))) H := hPic.2 9 (by omega) (by omega)
                  have hm11 : va_at D vwCl (am 11, .inl (g 0, 128, .inl (fun j => jI (A1 11 j)))) H := hPic.2 11 (by omega) (by omega)
                  have hm12 : va_at D vwCl (am 12, .inl (g 0, 8, .inl (fun j => jI (A1 12 j)))) H := hPic.2 12 (by omega) (by omega)
                  refine lv_goto (tgt := 60) hx hb dX4_settle_104 (by decide) ?_
                  obtain ⟨d9, rfl⟩ : ∃ d9, d = d9 + 1 := ⟨d - 1, by omega⟩
                  rw [Nat.add_sub_cancel] at hA1
                  have hd9 := dInv_back hup hdI (by omega) (by omega)
                  exact ih (((d9 + 1 : Nat) : Int) + (-1), d9 + 1, jUp t d9 (t d9 + 1), A1, a1, b1) H _ ls ⟨⟨by dsimp only; omega, hd9, dTr (v := t d9 + 1) (e := d9 + 2) (e' := d9 + 1) hA1 (by omega) ht (fun i h1 h2 => by omega), dTrM hA1 hmem, dTrR hA1 (by decide) hR, hPic, hT0⟩, lv_sub hl [1, 2, 0] rfl⟩ (dMu_back (by omega) hd9 hop4 (by omega) (by have := hop4 (d9 + 1) (by omega); omega))
      · refine lv_aload_n hx hb dX4_settle_38 rfl (lv_at hl 0 rfl) ?_
        refine va_get (D := D) (ci := 4) (v := .ref (am 11)) (C := RX4) (T := TX4) (N := 17) hx hb hts (fun w h => List.mem_cons_of_mem _ (uw_X4 w h)) hown hK (j_P1 hm0) 0 rfl rfl 15 (by decide) (hts _ (List.mem_cons_of_mem _ kw_433)) (fun _ h9 => h9) rfl dX4_settle_39 ?_
        refine lv_iload_n hx hb dX4_settle_42 rfl (lv_at hl 2 rfl) ?_
        refine jv_iconst hx hb dX4_settle_43 ?_
        refine jv_iast (i := k) hx hb hK hm11 0 rfl (by omega) (by omega) (by decide) dX4_settle_44 (fun H f9 hn9 hz9 oq9 => ?_)
        have hPic := mW_arr hj hPic 11 (by omega) (by omega) oq9 hn9
        obtain ⟨A1, hA1⟩ : ∃ A9, A9 = jUp B 11 (jUp (B 11) k (0)) := ⟨_, rfl⟩
        rw [← hA1] at hPic
        have hT0 := hT0.put 11 (by omega) hz9 oq9 (f := f9)
        have hm0 := hPic.1
        have hm11 : va_at D vwCl (am 11, .inl (g 0, 128, .inl (fun j => jI (A1 11 j)))) H := hPic.2 11 (by omega) (by omega)
        refine lv_iinc (v := jI ((k : Int) + 1)) (lv' := [(2, .int (jI ((k : Int) + 1))), (0, .ref (am 0)), (1, .int (jI (mg)))]) hx hb dX4_settle_45 hl (k := 2) rfl (jI_add _ _) (by decide) rfl (fun ls hl => ?_)
        refine lv_goto (tgt := 31) hx hb dX4_settle_48 (by decide) ?_
        exact ih (k + 1, A1) H _ ls ⟨⟨by dsimp only; omega, dTrR hA1 (by decide) hR, fun j hj => by dsimp only at hj ⊢; rw [hA1, jUp_s, jUp_at]; by_cases h : j = k; (· rw [if_pos h]); (· rw [if_neg h]; exact hk3 j (by omega)), hPic, hT0⟩, lv_sub hl [1, 2, 0] rfl⟩ (by dsimp only; omega)
    · exact absurd c24 (by omega)
