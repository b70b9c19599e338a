set_option maxRecDepth 20000 in
theorem kw_11 : (.initialized RL : Cond) ∈ gAll := g_mem 11 rfl rfl
set_option maxRecDepth 20000 in
theorem kw_131 : (.methodLink RL 65 yL_device : Cond) ∈ gAll := g_mem 131 rfl rfl
set_option maxRecDepth 20000 in
theorem kw_132 : (.static yL_device : Cond) ∈ gAll := g_mem 132 rfl rfl
set_option maxRecDepth 20000 in
theorem kw_227 : (.methodLink RL 75 yL_point : Cond) ∈ gAll := g_mem 227 rfl rfl
set_option maxRecDepth 20000 in
theorem kw_228 : (.static yL_point : Cond) ∈ gAll := g_mem 228 rfl rfl
set_option maxRecDepth 20000 in
theorem kw_245 : (.methodLink RL 79 yL_option : Cond) ∈ gAll := g_mem 245 rfl rfl
set_option maxRecDepth 20000 in
theorem kw_246 : (.static yL_option : Cond) ∈ gAll := g_mem 246 rfl rfl
set_option maxRecDepth 20000 in
theorem kw_253 : (.methodLink RL 83 yL_choose : Cond) ∈ gAll := g_mem 253 rfl rfl
set_option maxRecDepth 20000 in
theorem kw_254 : (.static yL_choose : Cond) ∈ gAll := g_mem 254 rfl rfl
set_option maxRecDepth 20000 in
theorem kw_260 : (.methodLink RL 87 yL_time : Cond) ∈ gAll := g_mem 260 rfl rfl
set_option maxRecDepth 20000 in
theorem kw_261 : (.static yL_time : Cond) ∈ gAll := g_mem 261 rfl rfl
set_option maxRecDepth 20000 in
theorem kw_287 : (.methodLink RL 91 yL_opensFrom : Cond) ∈ gAll := g_mem 287 rfl rfl
set_option maxRecDepth 20000 in
theorem kw_288 : (.static yL_opensFrom : Cond) ∈ gAll := g_mem 288 rfl rfl
set_option maxRecDepth 20000 in
theorem kw_301 : (.methodLink RL 94 yL_order : Cond) ∈ gAll := g_mem 301 rfl rfl
set_option maxRecDepth 20000 in
theorem kw_302 : (.static yL_order : Cond) ∈ gAll := g_mem 302 rfl rfl
set_option maxRecDepth 20000 in
theorem kw_333 : (.methodLink RL 97 yL_broken : Cond) ∈ gAll := g_mem 333 rfl rfl
set_option maxRecDepth 20000 in
theorem kw_334 : (.static yL_broken : Cond) ∈ gAll := g_mem 334 rfl rfl
set_option maxRecDepth 20000 in
theorem kw_346 : (.methodLink RL 100 yL_settle : Cond) ∈ gAll := g_mem 346 rfl rfl
set_option maxRecDepth 20000 in
theorem kw_347 : (.static yL_settle : Cond) ∈ gAll := g_mem 347 rfl rfl
set_option maxRecDepth 20000 in
theorem kw_363 : (.methodLink RL 103 yL_chosen : Cond) ∈ gAll := g_mem 363 rfl rfl
set_option maxRecDepth 20000 in
theorem kw_364 : (.static yL_chosen : Cond) ∈ gAll := g_mem 364 rfl rfl
set_option maxRecDepth 20000 in
theorem kw_370 : (.methodLink RL 106 yL_impedance : Cond) ∈ gAll := g_mem 370 rfl rfl
set_option maxRecDepth 20000 in
theorem kw_371 : (.static yL_impedance : Cond) ∈ gAll := g_mem 371 rfl rfl
set_option maxRecDepth 20000 in
theorem kw_377 : (.methodLink RL 109 yL_voltage : Cond) ∈ gAll := g_mem 377 rfl rfl
set_option maxRecDepth 20000 in
theorem kw_378 : (.static yL_voltage : Cond) ∈ gAll := g_mem 378 rfl rfl
set_option maxRecDepth 20000 in
theorem kw_385 : (.methodLink RL 112 yL_shortAt : Cond) ∈ gAll := g_mem 385 rfl rfl
set_option maxRecDepth 20000 in
theorem kw_386 : (.static yL_shortAt : Cond) ∈ gAll := g_mem 386 rfl rfl
set_option maxRecDepth 20000 in
theorem kw_401 : (.methodLink RL 115 yL_opens : Cond) ∈ gAll := g_mem 401 rfl rfl
set_option maxRecDepth 20000 in
theorem kw_402 : (.static yL_opens : Cond) ∈ gAll := g_mem 402 rfl rfl
set_option maxRecDepth 20000 in
theorem kw_470 : (.methodLink RL 71 yX4_thrown : Cond) ∈ gAll := g_mem 470 rfl rfl
set_option maxRecDepth 20000 in
theorem kw_471 : (.instanceMethod yX4_thrown : Cond) ∈ gAll := g_mem 471 rfl rfl
set_option maxRecDepth 20000 in
theorem kw_472 : (.selects RX4 yX4_thrown yX4_thrown : Cond) ∈ gAll := g_mem 472 rfl rfl
set_option maxRecDepth 20000 in
theorem kw_474 : (.methodLink RL 70 yX4_device : Cond) ∈ gAll := g_mem 474 rfl rfl
set_option maxRecDepth 20000 in
theorem kw_475 : (.instanceMethod yX4_device : Cond) ∈ gAll := g_mem 475 rfl rfl
set_option maxRecDepth 20000 in
theorem kw_476 : (.selects RX4 yX4_device yX4_device : Cond) ∈ gAll := g_mem 476 rfl rfl
set_option maxRecDepth 20000 in
theorem kw_485 : (.methodLink RL 78 yX4_point : Cond) ∈ gAll := g_mem 485 rfl rfl
set_option maxRecDepth 20000 in
theorem kw_486 : (.instanceMethod yX4_point : Cond) ∈ gAll := g_mem 486 rfl rfl
set_option maxRecDepth 20000 in
theorem kw_487 : (.selects RX4 yX4_point yX4_point : Cond) ∈ gAll := g_mem 487 rfl rfl
set_option maxRecDepth 20000 in
theorem kw_490 : (.methodLink RL 82 yX4_option : Cond) ∈ gAll := g_mem 490 rfl rfl
set_option maxRecDepth 20000 in
theorem kw_491 : (.instanceMethod yX4_option : Cond) ∈ gAll := g_mem 491 rfl rfl
set_option maxRecDepth 20000 in
theorem kw_492 : (.selects RX4 yX4_option yX4_option : Cond) ∈ gAll := g_mem 492 rfl rfl
set_option maxRecDepth 20000 in
theorem kw_494 : (.methodLink RL 86 yX4_choose : Cond) ∈ gAll := g_mem 494 rfl rfl
set_option maxRecDepth 20000 in
theorem kw_495 : (.instanceMethod yX4_choose : Cond) ∈ gAll := g_mem 495 rfl rfl
set_option maxRecDepth 20000 in
theorem kw_496 : (.selects RX4 yX4_choose yX4_choose : Cond) ∈ gAll := g_mem 496 rfl rfl
set_option maxRecDepth 20000 in
theorem kw_498 : (.methodLink RL 90 yX4_time : Cond) ∈ gAll := g_mem 498 rfl rfl
set_option maxRecDepth 20000 in
theorem kw_499 : (.instanceMethod yX4_time : Cond) ∈ gAll := g_mem 499 rfl rfl
set_option maxRecDepth 20000 in
theorem kw_500 : (.selects RX4 yX4_time yX4_time : Cond) ∈ gAll := g_mem 500 rfl rfl
set_option maxRecDepth 20000 in
theorem kw_511 : (.methodLink RL 93 yX4_opensFrom : Cond) ∈ gAll := g_mem 511 rfl rfl
set_option maxRecDepth 20000 in
theorem kw_512 : (.instanceMethod yX4_opensFrom : Cond) ∈ gAll := g_mem 512 rfl rfl
set_option maxRecDepth 20000 in
theorem kw_513 : (.selects RX4 yX4_opensFrom yX4_opensFrom : Cond) ∈ gAll := g_mem 513 rfl rfl
set_option maxRecDepth 20000 in
theorem kw_515 : (.methodLink RL 96 yX4_order : Cond) ∈ gAll := g_mem 515 rfl rfl
set_option maxRecDepth 20000 in
theorem kw_516 : (.instanceMethod yX4_order : Cond) ∈ gAll := g_mem 516 rfl rfl
set_option maxRecDepth 20000 in
theorem kw_517 : (.selects RX4 yX4_order yX4_order : Cond) ∈ gAll := g_mem 517 rfl rfl
set_option maxRecDepth 20000 in
theorem kw_527 : (.methodLink RL 99 yX4_broken : Cond) ∈ gAll := g_mem 527 rfl rfl
set_option maxRecDepth 20000 in
theorem kw_528 : (.instanceMethod yX4_broken : Cond) ∈ gAll := g_mem 528 rfl rfl
set_option maxRecDepth 20000 in
theorem kw_529 : (.selects RX4 yX4_broken yX4_broken : Cond) ∈ gAll := g_mem 529 rfl rfl
set_option maxRecDepth 20000 in
theorem kw_531 : (.methodLink RL 102 yX4_settle : Cond) ∈ gAll := g_mem 531 rfl rfl
set_option maxRecDepth 20000 in
theorem kw_532 : (.instanceMethod yX4_settle : Cond) ∈ gAll := g_mem 532 rfl rfl
set_option maxRecDepth 20000 in
theorem kw_533 : (.selects RX4 yX4_settle yX4_settle : Cond) ∈ gAll := g_mem 533 rfl rfl
set_option maxRecDepth 20000 in
theorem kw_539 : (.methodLink RL 105 yX4_chosen : Cond) ∈ gAll := g_mem 539 rfl rfl
set_option maxRecDepth 20000 in
theorem kw_540 : (.instanceMethod yX4_chosen : Cond) ∈ gAll := g_mem 540 rfl rfl
set_option maxRecDepth 20000 in
theorem kw_541 : (.selects RX4 yX4_chosen yX4_chosen : Cond) ∈ gAll := g_mem 541 rfl rfl
set_option maxRecDepth 20000 in
theorem kw_543 : (.methodLink RL 108 yX4_impedance : Cond) ∈ gAll := g_mem 543 rfl rfl
set_option maxRecDepth 20000 in
theorem kw_544 : (.instanceMethod yX4_impedance : Cond) ∈ gAll := g_mem 544 rfl rfl
set_option maxRecDepth 20000 in
theorem kw_545 : (.selects RX4 yX4_impedance yX4_impedance : Cond) ∈ gAll := g_mem 545 rfl rfl
set_option maxRecDepth 20000 in
theorem kw_547 : (.methodLink RL 111 yX4_voltage : Cond) ∈ gAll := g_mem 547 rfl rfl
set_option maxRecDepth 20000 in
theorem kw_548 : (.instanceMethod yX4_voltage : Cond) ∈ gAll := g_mem 548 rfl rfl
set_option maxRecDepth 20000 in
theorem kw_549 : (.selects RX4 yX4_voltage yX4_voltage : Cond) ∈ gAll := g_mem 549 rfl rfl
set_option maxRecDepth 20000 in
theorem kw_552 : (.methodLink RL 114 yX4_shortAt : Cond) ∈ gAll := g_mem 552 rfl rfl
set_option maxRecDepth 20000 in
theorem kw_553 : (.instanceMethod yX4_shortAt : Cond) ∈ gAll := g_mem 553 rfl rfl
set_option maxRecDepth 20000 in
theorem kw_554 : (.selects RX4 yX4_shortAt yX4_shortAt : Cond) ∈ gAll := g_mem 554 rfl rfl
set_option maxRecDepth 20000 in
theorem kw_562 : (.methodLink RL 117 yX4_opens : Cond) ∈ gAll := g_mem 562 rfl rfl
set_option maxRecDepth 20000 in
theorem kw_563 : (.instanceMethod yX4_opens : Cond) ∈ gAll := g_mem 563 rfl rfl
set_option maxRecDepth 20000 in
theorem kw_564 : (.selects RX4 yX4_opens yX4_opens : Cond) ∈ gAll := g_mem 564 rfl rfl
set_option maxHeartbeats 8000000 in
set_option maxRecDepth 100000 in
theorem lc_device (p : Program) (l : Launch) (e : Env) (s : State) (m : MethodId) (below : List Frame) (meth : Method) (c : Code) (b L : Nat) (xs : Nat → Int32) (D : va_G) (g : Nat → ClassId) (z0 : Nat) (Q : State → Prop) (G : lG l p s m c b L xs D g z0) (i cells slots : Nat) (hi : i + 5 ≤ L) (hcc : cells + 1 ≤ 665561) (hss : slots + 6 ≤ 7099421) (kk : lGo p l e s m below meth c b D g z0 Q i 1083 (cells + 1) (slots + 6)) : lGo p l e s m below meth c b D g z0 Q i 108 cells slots := by
  obtain ⟨hl9, hx, hb, hml, hown, hts, hK, hxT0, hX0, hbl, hL⟩ := G
  intro z rl ff v cd dv vo ab be AA H locs ls hz hdf hR hI hl
  have hX : va_X b L xs s H := hX0.kept (hI.2.2.2.2.1 b hbl)
  have hxT : xT z0 s H := hxT0.kept (fun a _ h2 => hI.2.2.2.2.1 a h2)
  have sr1 := sx_rng xs (i + 1)
  have sr2 := sx_rng xs (i + 2)
  have sr3 := sx_rng xs (i + 3)
  have sr4 := sx_rng xs (i + 4)
  refine lv_aload_n hx hb dL_law_108 rfl (lv_at hl 1 rfl) ?_
  refine lv_aload_n hx hb dL_law_109 rfl (lv_at hl 0 rfl) ?_
  refine lv_iload hx hb dL_law_110 (lv_at hl 4 rfl) ?_
  refine jv_iconst hx hb dL_law_112 ?_
  refine jv_iadd hx hb dL_law_113 ?_
  refine jl_sld (j := (i + 1)) hx hb hX (by omega) (by omega) hL dL_law_114 ?_
  refine lv_aload_n hx hb dL_law_115 rfl (lv_at hl 3 rfl) ?_
  obtain ⟨code9, ans9, w9, hcd, ⟨hzw, hdw⟩, hTW, hTM⟩ := t_device l hl9 D g z0 (nAd z0 (z0 + 1)) (nAm (z0 + 98) (z0 + 99)) (z0 + 111) (nAd_inj (by omega)) (nAm_inj (by omega)) (nAo z0) z hz hdf (sx xs (i + 1)) sr1
  obtain ⟨rm9, ⟨r1, r2, r3, r4⟩, hMw⟩ := hTW rl ff v
  refine LL_call hI (vx_runSW (As := [.ref (nAd z0 (z0 + 1) 0), .int (jI (sx xs (i + 1))), .ref (z0 + 111)]) (rest := []) ⟨hx, hb, hml, hown, hts⟩ hMw (vx_cwSW 3 hts (gd_S kw_131 kw_132 kw_11 kcL_device) rfl r1 r2 (by decide +kernel) ⟨by show _ ≤ 12; omega, by show _ ≤ 436; omega⟩) (px_preS ⟨hI.1, hI.2.1⟩ hK hxT) rfl rfl hl.1 rfl (lv_room (Nat.le_of_ble_eq_true rfl)) dL_law_116 ⟨hcc, hss⟩) (fun H locs rl ff v hI hv => ?_)
  have hX : va_X b L xs s H := hX0.kept (hI.2.2.2.2.1 b hbl)
  refine lv_istore (lv' := [(5, .int (jI (code9))), (0, .ref b), (1, .ref (nAd z0 (z0 + 1) 0)), (2, .ref (nAm (z0 + 98) (z0 + 99) 0)), (3, .ref (z0 + 111)), (4, .int (jI ((i : Int))))]) hx hb dL_law_119 hl (by decide) rfl (fun ls hl => ?_)
  refine lv_aload_n hx hb dL_law_121 rfl (lv_at hl 3 rfl) ?_
  refine lv_aload_n hx hb dL_law_122 rfl (lv_at hl 1 rfl) ?_
  refine lv_iload hx hb dL_law_123 (lv_at hl 5 rfl) ?_
  refine jv_iconst hx hb dL_law_125 ?_
  refine jv_iadd hx hb dL_law_126 ?_
  refine jl_sld (j := (i + 1)) hx hb hX (by omega) (by omega) hL dL_law_127 ?_
  obtain ⟨rm8, b8, ⟨r1, r2, r3, r4⟩, hb8, hMm⟩ := hTM cd dv vo ab be AA hR
  refine LM_call hI (va_runV (As := [.int (jI (sx xs (i + 1)))]) (rest := []) ⟨hx, hb, hml, hown, hts⟩ hMm (cwV 1 hts (gd_V kw_474 kw_475 kw_476 kw_16 kcX4_device) rfl r1 r2 (by decide +kernel) ⟨by show _ ≤ 12; omega, by show _ ≤ 436; omega⟩) (pu_preV hI.2.2.1 hK rfl hI.2.2.1.1) rfl rfl hl.1 rfl (lv_room (Nat.le_of_ble_eq_true rfl)) dL_law_128 ⟨by show cells + 1 + 0 ≤ 665561; omega, by show slots + 6 + 0 ≤ 7099421; omega⟩) (fun H locs dv vo AA ab be hR hI => ?_)
  refine lv_istore (lv' := [(6, .int (jI (b8))), (5, .int (jI (code9))), (0, .ref b), (1, .ref (nAd z0 (z0 + 1) 0)), (2, .ref (nAm (z0 + 98) (z0 + 99) 0)), (3, .ref (z0 + 111)), (4, .int (jI ((i : Int))))]) hx hb dL_law_131 hl (by decide) rfl (fun ls hl => ?_)
  refine lv_aload_n hx hb dL_law_133 rfl (lv_at hl 4 rfl) ?_
  refine pu_call1 (va_runV (As := []) (rest := []) ⟨hx, hb, hml, hown, hts⟩ (k_thrown l D g (nAm (z0 + 98) (z0 + 99)) code9 dv vo ab be AA) (cwV 0 hts (gd_V kw_470 kw_471 kw_472 kw_16 kcX4_thrown) rfl rfl rfl (by decide +kernel) ⟨Nat.le_of_ble_eq_true rfl, Nat.le_of_ble_eq_true rfl⟩) (pu_preV hI.2.2.1 hK rfl hI.2.2.1.1) rfl rfl hl.1 rfl (lv_room (Nat.le_of_ble_eq_true rfl)) dL_law_134 ⟨by show cells + 1 + 0 ≤ 665561; omega, by show slots + 6 + 0 ≤ 7099421; omega⟩) ?_
  refine lv_iload hx hb dL_law_137 (lv_at hl 1 rfl) ?_
  refine jv_icmp_eq (tgt := 144) hx hb dL_law_139 (by decide) (by omega) (by omega) (fun c139 => ?_) (fun c139 => ?_)
  · refine lv_iload hx hb dL_law_144 (lv_at hl 1 rfl) ?_
    refine jv_if_ne (tgt := 161) hx hb dL_law_146 (by decide) (by omega) (fun c146 => ?_) (fun c146 => ?_)
    · refine lv_goto (tgt := 1083) hx hb dL_law_161 (by decide) ?_
      exact kk w9 rl ff v code9 dv vo ab be AA H locs ls hzw hdw hR hI (lv_sub hl [2, 3, 4, 5, 6] rfl)
    · have hv9 := hv c146
      have hb9 := hb8 c146
      refine lv_aload_n hx hb dL_law_149 rfl (lv_at hl 5 rfl) ?_
      refine jv_iconst hx hb dL_law_150 ?_
      refine jv_lald (i := 0) hx hb hK hI.2.1 4 rfl rfl (by decide) (by decide) dL_law_151 ?_
      refine lv_iload hx hb dL_law_152 (lv_at hl 0 rfl) ?_
      rw [← jI_cn b8]
      refine jv_i2l hx hb dL_law_154 (cn_rng _) ?_
      refine jv_lcmp_eq (tgt := 161) hx hb dL_law_155 dL_law_156 (by decide) (by have h9 := cn_rng ans9; omega) (by have h9 := cn_rng b8; omega) (fun c155 => ?_) (fun c155 => ?_)
      · refine lv_goto (tgt := 1083) hx hb dL_law_161 (by decide) ?_
        exact kk w9 rl ff v code9 dv vo ab be AA H locs ls hzw hdw hR hI (lv_sub hl [2, 3, 4, 5, 6] rfl)
      · exact absurd (by rw [hv9, hb9]) c155
  · exact absurd rfl c139
set_option maxHeartbeats 8000000 in
set_option maxRecDepth 100000 in
theorem lc_point (p : Program) (l : Launch) (e : Env) (s : State) (m : MethodId) (below : List Frame) (meth : Method) (c : Code) (b L : Nat) (xs : Nat → Int32) (D : va_G) (g : Nat → ClassId) (z0 : Nat) (Q : State → Prop) (G : lG l p s m c b L xs D g z0) (i cells slots : Nat) (hi : i + 5 ≤ L) (hcc : cells + 1 ≤ 665561) (hss : slots + 6 ≤ 7099421) (kk : lGo p l e s m below meth c b D g z0 Q i 1083 (cells + 1) (slots + 6)) : lGo p l e s m below meth c b D g z0 Q i 164 cells slots := by
  obtain ⟨hl9, hx, hb, hml, hown, hts, hK, hxT0, hX0, hbl, hL⟩ := G
  intro z rl ff v cd dv vo ab be AA H locs ls hz hdf hR hI hl
  have hX : va_X b L xs s H := hX0.kept (hI.2.2.2.2.1 b hbl)
  have hxT : xT z0 s H := hxT0.kept (fun a _ h2 => hI.2.2.2.2.1 a h2)
  have sr1 := sx_rng xs (i + 1)
  have sr2 := sx_rng xs (i + 2)
  have sr3 := sx_rng xs (i + 3)
  have sr4 := sx_rng xs (i + 4)
  refine lv_aload_n hx hb dL_law_164 rfl (lv_at hl 1 rfl) ?_
  refine lv_aload_n hx hb dL_law_165 rfl (lv_at hl 0 rfl) ?_
  refine lv_iload hx hb dL_law_166 (lv_at hl 4 rfl) ?_
  refine jv_iconst hx hb dL_law_168 ?_
  refine jv_iadd hx hb dL_law_169 ?_
  refine jl_sld (j := (i + 1)) hx hb hX (by omega) (by omega) hL dL_law_170 ?_
  refine lv_aload_n hx hb dL_law_171 rfl (lv_at hl 0 rfl) ?_
  refine lv_iload hx hb dL_law_172 (lv_at hl 4 rfl) ?_
  refine jv_iconst hx hb dL_law_174 ?_
  refine jv_iadd hx hb dL_law_175 ?_
  refine jl_sld (j := (i + 2)) hx hb hX (by omega) (by omega) hL dL_law_176 ?_
  refine lv_aload_n hx hb dL_law_177 rfl (lv_at hl 0 rfl) ?_
  refine lv_iload hx hb dL_law_178 (lv_at hl 4 rfl) ?_
  refine jv_iconst hx hb dL_law_180 ?_
  refine jv_iadd hx hb dL_law_181 ?_
  refine jl_sld (j := (i + 3)) hx hb hX (by omega) (by omega) hL dL_law_182 ?_
  refine lv_aload_n hx hb dL_law_183 rfl (lv_at hl 0 rfl) ?_
  refine lv_iload hx hb dL_law_184 (lv_at hl 4 rfl) ?_
  refine jv_iconst hx hb dL_law_186 ?_
  refine jv_iadd hx hb dL_law_187 ?_
  refine jl_sld (j := (i + 4)) hx hb hX (by omega) (by omega) hL dL_law_188 ?_
  refine lv_aload_n hx hb dL_law_189 rfl (lv_at hl 3 rfl) ?_
  obtain ⟨code9, ans9, w9, hcd, ⟨hzw, hdw⟩, hTW, hTM⟩ := t_point l hl9 D g z0 (nAd z0 (z0 + 1)) (nAm (z0 + 98) (z0 + 99)) (z0 + 111) (nAd_inj (by omega)) (nAm_inj (by omega)) (nAo z0) z hz hdf (sx xs (i + 1)) (sx xs (i + 2)) (sx xs (i + 3)) (sx xs (i + 4)) sr1 sr2 sr3 sr4
  obtain ⟨rm9, ⟨r1, r2, r3, r4⟩, hMw⟩ := hTW rl ff v
  refine LL_call hI (vx_runSW (As := [.ref (nAd z0 (z0 + 1) 0), .int (jI (sx xs (i + 1))), .int (jI (sx xs (i + 2))), .int (jI (sx xs (i + 3))), .int (jI (sx xs (i + 4))), .ref (z0 + 111)]) (rest := []) ⟨hx, hb, hml, hown, hts⟩ hMw (vx_cwSW 6 hts (gd_S kw_227 kw_228 kw_11 kcL_point) rfl r1 r2 (by decide +kernel) ⟨by show _ ≤ 12; omega, by show _ ≤ 436; omega⟩) (px_preS ⟨hI.1, hI.2.1⟩ hK hxT) rfl rfl hl.1 rfl (lv_room (Nat.le_of_ble_eq_true rfl)) dL_law_190 ⟨hcc, hss⟩) (fun H locs rl ff v hI hv => ?_)
  have hX : va_X b L xs s H := hX0.kept (hI.2.2.2.2.1 b hbl)
  refine lv_istore (lv' := [(5, .int (jI (code9))), (0, .ref b), (1, .ref (nAd z0 (z0 + 1) 0)), (2, .ref (nAm (z0 + 98) (z0 + 99) 0)), (3, .ref (z0 + 111)), (4, .int (jI ((i : Int))))]) hx hb dL_law_193 hl (by decide) rfl (fun ls hl => ?_)
  refine lv_aload_n hx hb dL_law_195 rfl (lv_at hl 3 rfl) ?_
  refine lv_aload_n hx hb dL_law_196 rfl (lv_at hl 1 rfl) ?_
  refine lv_iload hx hb dL_law_197 (lv_at hl 5 rfl) ?_
  refine jv_iconst hx hb dL_law_199 ?_
  refine jv_iadd hx hb dL_law_200 ?_
  refine jl_sld (j := (i + 1)) hx hb hX (by omega) (by omega) hL dL_law_201 ?_
  refine lv_aload_n hx hb dL_law_202 rfl (lv_at hl 1 rfl) ?_
  refine lv_iload hx hb dL_law_203 (lv_at hl 5 rfl) ?_
  refine jv_iconst hx hb dL_law_205 ?_
  refine jv_iadd hx hb dL_law_206 ?_
  refine jl_sld (j := (i + 2)) hx hb hX (by omega) (by omega) hL dL_law_207 ?_
  refine lv_aload_n hx hb dL_law_208 rfl (lv_at hl 1 rfl) ?_
  refine lv_iload hx hb dL_law_209 (lv_at hl 5 rfl) ?_
  refine jv_iconst hx hb dL_law_211 ?_
  refine jv_iadd hx hb dL_law_212 ?_
  refine jl_sld (j := (i + 3)) hx hb hX (by omega) (by omega) hL dL_law_213 ?_
  refine lv_aload_n hx hb dL_law_214 rfl (lv_at hl 1 rfl) ?_
  refine lv_iload hx hb dL_law_215 (lv_at hl 5 rfl) ?_
  refine jv_iconst hx hb dL_law_217 ?_
  refine jv_iadd hx hb dL_law_218 ?_
  refine jl_sld (j := (i + 4)) hx hb hX (by omega) (by omega) hL dL_law_219 ?_
  obtain ⟨rm8, b8, ⟨r1, r2, r3, r4⟩, hb8, hMm⟩ := hTM cd dv vo ab be AA hR
  refine LM_call hI (va_runV (As := [.int (jI (sx xs (i + 1))), .int (jI (sx xs (i + 2))), .int (jI (sx xs (i + 3))), .int (jI (sx xs (i + 4)))]) (rest := []) ⟨hx, hb, hml, hown, hts⟩ hMm (cwV 4 hts (gd_V kw_485 kw_486 kw_487 kw_16 kcX4_point) rfl r1 r2 (by decide +kernel) ⟨by show _ ≤ 12; omega, by show _ ≤ 436; omega⟩) (pu_preV hI.2.2.1 hK rfl hI.2.2.1.1) rfl rfl hl.1 rfl (lv_room (Nat.le_of_ble_eq_true rfl)) dL_law_220 ⟨by show cells + 1 + 0 ≤ 665561; omega, by show slots + 6 + 0 ≤ 7099421; omega⟩) (fun H locs dv vo AA ab be hR hI => ?_)
  refine lv_istore (lv' := [(6, .int (jI (b8))), (5, .int (jI (code9))), (0, .ref b), (1, .ref (nAd z0 (z0 + 1) 0)), (2, .ref (nAm (z0 + 98) (z0 + 99) 0)), (3, .ref (z0 + 111)), (4, .int (jI ((i : Int))))]) hx hb dL_law_223 hl (by decide) rfl (fun ls hl => ?_)
  refine lv_aload_n hx hb dL_law_225 rfl (lv_at hl 4 rfl) ?_
  refine pu_call1 (va_runV (As := []) (rest := []) ⟨hx, hb, hml, hown, hts⟩ (k_thrown l D g (nAm (z0 + 98) (z0 + 99)) code9 dv vo ab be AA) (cwV 0 hts (gd_V kw_470 kw_471 kw_472 kw_16 kcX4_thrown) rfl rfl rfl (by decide +kernel) ⟨Nat.le_of_ble_eq_true rfl, Nat.le_of_ble_eq_true rfl⟩) (pu_preV hI.2.2.1 hK rfl hI.2.2.1.1) rfl rfl hl.1 rfl (lv_room (Nat.le_of_ble_eq_true rfl)) dL_law_226 ⟨by show cells + 1 + 0 ≤ 665561; omega, by show slots + 6 + 0 ≤ 7099421; omega⟩) ?_
  refine lv_iload hx hb dL_law_229 (lv_at hl 1 rfl) ?_
  refine jv_icmp_eq (tgt := 236) hx hb dL_law_231 (by decide) (by omega) (by omega) (fun c231 => ?_) (fun c231 => ?_)
  · refine lv_iload hx hb dL_law_236 (lv_at hl 1 rfl) ?_
    refine jv_if_ne (tgt := 253) hx hb dL_law_238 (by decide) (by omega) (fun c238 => ?_) (fun c238 => ?_)
    · refine lv_goto (tgt := 1083) hx hb dL_law_253 (by decide) ?_
      exact kk w9 rl ff v code9 dv vo ab be AA H locs ls hzw hdw hR hI (lv_sub hl [2, 3, 4, 5, 6] rfl)
    · have hv9 := hv c238
      have hb9 := hb8 c238
      refine lv_aload_n hx hb dL_law_241 rfl (lv_at hl 5 rfl) ?_
      refine jv_iconst hx hb dL_law_242 ?_
      refine jv_lald (i := 0) hx hb hK hI.2.1 4 rfl rfl (by decide) (by decide) dL_law_243 ?_
      refine lv_iload hx hb dL_law_244 (lv_at hl 0 rfl) ?_
      rw [← jI_cn b8]
      refine jv_i2l hx hb dL_law_246 (cn_rng _) ?_
      refine jv_lcmp_eq (tgt := 253) hx hb dL_law_247 dL_law_248 (by decide) (by have h9 := cn_rng ans9; omega) (by have h9 := cn_rng b8; omega) (fun c247 => ?_) (fun c247 => ?_)
      · refine lv_goto (tgt := 1083) hx hb dL_law_253 (by decide) ?_
        exact kk w9 rl ff v code9 dv vo ab be AA H locs ls hzw hdw hR hI (lv_sub hl [2, 3, 4, 5, 6] rfl)
      · exact absurd (by rw [hv9, hb9]) c247
  · exact absurd rfl c231
set_option maxHeartbeats 8000000 in
set_option maxRecDepth 100000 in
theorem lc_option (p : Program) (l : Launch) (e : Env) (s : State) (m : MethodId) (below : List Frame) (meth : Method) (c : Code) (b L : Nat) (xs : Nat → Int32) (D : va_G) (g : Nat → ClassId) (z0 : Nat) (Q : State → Prop) (G : lG l p s m c b L xs D g z0) (i cells slots : Nat) (hi : i + 5 ≤ L) (hcc : cells + 1 ≤ 665561) (hss : slots + 6 ≤ 7099421) (kk : lGo p l e s m below meth c b D g z0 Q i 1083 (cells + 1) (slots + 6)) : lGo p l e s m below meth c b D g z0 Q i 256 cells slots := by
  obtain ⟨hl9, hx, hb, hml, hown, hts, hK, hxT0, hX0, hbl, hL⟩ := G
  intro z rl ff v cd dv vo ab be AA H locs ls hz hdf hR hI hl
  have hX : va_X b L xs s H := hX0.kept (hI.2.2.2.2.1 b hbl)
  have hxT : xT z0 s H := hxT0.kept (fun a _ h2 => hI.2.2.2.2.1 a h2)
  have sr1 := sx_rng xs (i + 1)
  have sr2 := sx_rng xs (i + 2)
  have sr3 := sx_rng xs (i + 3)
  have sr4 := sx_rng xs (i + 4)
  refine lv_aload_n hx hb dL_law_256 rfl (lv_at hl 1 rfl) ?_
  refine lv_aload_n hx hb dL_law_257 rfl (lv_at hl 0 rfl) ?_
  refine lv_iload hx hb dL_law_258 (lv_at hl 4 rfl) ?_
  refine jv_iconst hx hb dL_law_260 ?_
  refine jv_iadd hx hb dL_law_261 ?_
  refine jl_sld (j := (i + 1)) hx hb hX (by omega) (by omega) hL dL_law_262 ?_
  refine lv_aload_n hx hb dL_law_263 rfl (lv_at hl 0 rfl) ?_
  refine lv_iload hx hb dL_law_264 (lv_at hl 4 rfl) ?_
  refine jv_iconst hx hb dL_law_266 ?_
  refine jv_iadd hx hb dL_law_267 ?_
  refine jl_sld (j := (i + 2)) hx hb hX (by omega) (by omega) hL dL_law_268 ?_
  refine lv_aload_n hx hb dL_law_269 rfl (lv_at hl 0 rfl) ?_
  refine lv_iload hx hb dL_law_270 (lv_at hl 4 rfl) ?_
  refine jv_iconst hx hb dL_law_272 ?_
  refine jv_iadd hx hb dL_law_273 ?_
  refine jl_sld (j := (i + 3)) hx hb hX (by omega) (by omega) hL dL_law_274 ?_
  refine lv_aload_n hx hb dL_law_275 rfl (lv_at hl 3 rfl) ?_
  obtain ⟨code9, ans9, w9, hcd, ⟨hzw, hdw⟩, hTW, hTM⟩ := t_option l hl9 D g z0 (nAd z0 (z0 + 1)) (nAm (z0 + 98) (z0 + 99)) (z0 + 111) (nAd_inj (by omega)) (nAm_inj (by omega)) (nAo z0) z hz hdf (sx xs (i + 1)) (sx xs (i + 2)) (sx xs (i + 3)) sr1 sr2 sr3
  obtain ⟨rm9, ⟨r1, r2, r3, r4⟩, hMw⟩ := hTW rl ff v
  refine LL_call hI (vx_runSW (As := [.ref (nAd z0 (z0 + 1) 0), .int (jI (sx xs (i + 1))), .int (jI (sx xs (i + 2))), .int (jI (sx xs (i + 3))), .ref (z0 + 111)]) (rest := []) ⟨hx, hb, hml, hown, hts⟩ hMw (vx_cwSW 5 hts (gd_S kw_245 kw_246 kw_11 kcL_option) rfl r1 r2 (by decide +kernel) ⟨by show _ ≤ 12; omega, by show _ ≤ 436; omega⟩) (px_preS ⟨hI.1, hI.2.1⟩ hK hxT) rfl rfl hl.1 rfl (lv_room (Nat.le_of_ble_eq_true rfl)) dL_law_276 ⟨hcc, hss⟩) (fun H locs rl ff v hI hv => ?_)
  have hX : va_X b L xs s H := hX0.kept (hI.2.2.2.2.1 b hbl)
  refine lv_istore (lv' := [(5, .int (jI (code9))), (0, .ref b), (1, .ref (nAd z0 (z0 + 1) 0)), (2, .ref (nAm (z0 + 98) (z0 + 99) 0)), (3, .ref (z0 + 111)), (4, .int (jI ((i : Int))))]) hx hb dL_law_279 hl (by decide) rfl (fun ls hl => ?_)
  refine lv_aload_n hx hb dL_law_281 rfl (lv_at hl 3 rfl) ?_
  refine lv_aload_n hx hb dL_law_282 rfl (lv_at hl 1 rfl) ?_
  refine lv_iload hx hb dL_law_283 (lv_at hl 5 rfl) ?_
  refine jv_iconst hx hb dL_law_285 ?_
  refine jv_iadd hx hb dL_law_286 ?_
  refine jl_sld (j := (i + 1)) hx hb hX (by omega) (by omega) hL dL_law_287 ?_
  refine lv_aload_n hx hb dL_law_288 rfl (lv_at hl 1 rfl) ?_
  refine lv_iload hx hb dL_law_289 (lv_at hl 5 rfl) ?_
  refine jv_iconst hx hb dL_law_291 ?_
  refine jv_iadd hx hb dL_law_292 ?_
  refine jl_sld (j := (i + 2)) hx hb hX (by omega) (by omega) hL dL_law_293 ?_
  refine lv_aload_n hx hb dL_law_294 rfl (lv_at hl 1 rfl) ?_
  refine lv_iload hx hb dL_law_295 (lv_at hl 5 rfl) ?_
  refine jv_iconst hx hb dL_law_297 ?_
  refine jv_iadd hx hb dL_law_298 ?_
  refine jl_sld (j := (i + 3)) hx hb hX (by omega) (by omega) hL dL_law_299 ?_
  obtain ⟨rm8, b8, ⟨r1, r2, r3, r4⟩, hb8, hMm⟩ := hTM cd dv vo ab be AA hR
  refine LM_call hI (va_runV (As := [.int (jI (sx xs (i + 1))), .int (jI (sx xs (i + 2))), .int (jI (sx xs (i + 3)))]) (rest := []) ⟨hx, hb, hml, hown, hts⟩ hMm (cwV 3 hts (gd_V kw_490 kw_491 kw_492 kw_16 kcX4_option) rfl r1 r2 (by decide +kernel) ⟨by show _ ≤ 12; omega, by show _ ≤ 436; omega⟩) (pu_preV hI.2.2.1 hK rfl hI.2.2.1.1) rfl rfl hl.1 rfl (lv_room (Nat.le_of_ble_eq_true rfl)) dL_law_300 ⟨by show cells + 1 + 0 ≤ 665561; omega, by show slots + 6 + 0 ≤ 7099421; omega⟩) (fun H locs dv vo AA ab be hR hI => ?_)
  refine lv_istore (lv' := [(6, .int (jI (b8))), (5, .int (jI (code9))), (0, .ref b), (1, .ref (nAd z0 (z0 + 1) 0)), (2, .ref (nAm (z0 + 98) (z0 + 99) 0)), (3, .ref (z0 + 111)), (4, .int (jI ((i : Int))))]) hx hb dL_law_303 hl (by decide) rfl (fun ls hl => ?_)
  refine lv_aload_n hx hb dL_law_305 rfl (lv_at hl 4 rfl) ?_
  refine pu_call1 (va_runV (As := []) (rest := []) ⟨hx, hb, hml, hown, hts⟩ (k_thrown l D g (nAm (z0 + 98) (z0 + 99)) code9 dv vo ab be AA) (cwV 0 hts (gd_V kw_470 kw_471 kw_472 kw_16 kcX4_thrown) rfl rfl rfl (by decide +kernel) ⟨Nat.le_of_ble_eq_true rfl, Nat.le_of_ble_eq_true rfl⟩) (pu_preV hI.2.2.1 hK rfl hI.2.2.1.1) rfl rfl hl.1 rfl (lv_room (Nat.le_of_ble_eq_true rfl)) dL_law_306 ⟨by show cells + 1 + 0 ≤ 665561; omega, by show slots + 6 + 0 ≤ 7099421; omega⟩) ?_
  refine lv_iload hx hb dL_law_309 (lv_at hl 1 rfl) ?_
  refine jv_icmp_eq (tgt := 316) hx hb dL_law_311 (by decide) (by omega) (by omega) (fun c311 => ?_) (fun c311 => ?_)
  · refine lv_iload hx hb dL_law_316 (lv_at hl 1 rfl) ?_
    refine jv_if_ne (tgt := 333) hx hb dL_law_318 (by decide) (by omega) (fun c318 => ?_) (fun c318 => ?_)
    · refine lv_goto (tgt := 1083) hx hb dL_law_333 (by decide) ?_
      exact kk w9 rl ff v code9 dv vo ab be AA H locs ls hzw hdw hR hI (lv_sub hl [2, 3, 4, 5, 6] rfl)
    · have hv9 := hv c318
      have hb9 := hb8 c318
      refine lv_aload_n hx hb dL_law_321 rfl (lv_at hl 5 rfl) ?_
      refine jv_iconst hx hb dL_law_322 ?_
      refine jv_lald (i := 0) hx hb hK hI.2.1 4 rfl rfl (by decide) (by decide) dL_law_323 ?_
      refine lv_iload hx hb dL_law_324 (lv_at hl 0 rfl) ?_
      rw [← jI_cn b8]
      refine jv_i2l hx hb dL_law_326 (cn_rng _) ?_
      refine jv_lcmp_eq (tgt := 333) hx hb dL_law_327 dL_law_328 (by decide) (by have h9 := cn_rng ans9; omega) (by have h9 := cn_rng b8; omega) (fun c327 => ?_) (fun c327 => ?_)
      · refine lv_goto (tgt := 1083) hx hb dL_law_333 (by decide) ?_
        exact kk w9 rl ff v code9 dv vo ab be AA H locs ls hzw hdw hR hI (lv_sub hl [2, 3, 4, 5, 6] rfl)
      · exact absurd (by rw [hv9, hb9]) c327
  · exact absurd rfl c311
set_option maxHeartbeats 8000000 in
set_option maxRecDepth 100000 in
theorem lc_choose (p : Program) (l : Launch) (e : Env) (s : State) (m : MethodId) (below : List Frame) (meth : Method) (c : Code) (b L : Nat) (xs : Nat → Int32) (D : va_G) (g : Nat → ClassId) (z0 : Nat) (Q : State → Prop) (G : lG l p s m c b L xs D g z0) (i cells slots : Nat) (hi : i + 5 ≤ L) (hcc : cells + 1 ≤ 665561) (hss : slots + 6 ≤ 7099421) (kk : lGo p l e s m below meth c b D g z0 Q i 1083 (cells + 1) (slots + 6)) : lGo p l e s m below meth c b D g z0 Q i 336 cells slots := by
  obtain ⟨hl9, hx, hb, hml, hown, hts, hK, hxT0, hX0, hbl, hL⟩ := G
  intro z rl ff v cd dv vo ab be AA H locs ls hz hdf hR hI hl
  have hX : va_X b L xs s H := hX0.kept (hI.2.2.2.2.1 b hbl)
  have hxT : xT z0 s H := hxT0.kept (fun a _ h2 => hI.2.2.2.2.1 a h2)
  have sr1 := sx_rng xs (i + 1)
  have sr2 := sx_rng xs (i + 2)
  have sr3 := sx_rng xs (i + 3)
  have sr4 := sx_rng xs (i + 4)
  refine lv_aload_n hx hb dL_law_336 rfl (lv_at hl 1 rfl) ?_
  refine lv_aload_n hx hb dL_law_337 rfl (lv_at hl 0 rfl) ?_
  refine lv_iload hx hb dL_law_338 (lv_at hl 4 rfl) ?_
  refine jv_iconst hx hb dL_law_340 ?_
  refine jv_iadd hx hb dL_law_341 ?_
  refine jl_sld (j := (i + 1)) hx hb hX (by omega) (by omega) hL dL_law_342 ?_
  refine lv_aload_n hx hb dL_law_343 rfl (lv_at hl 0 rfl) ?_
  refine lv_iload hx hb dL_law_344 (lv_at hl 4 rfl) ?_
  refine jv_iconst hx hb dL_law_346 ?_
  refine jv_iadd hx hb dL_law_347 ?_
  refine jl_sld (j := (i + 2)) hx hb hX (by omega) (by omega) hL dL_law_348 ?_
  refine lv_aload_n hx hb dL_law_349 rfl (lv_at hl 3 rfl) ?_
  obtain ⟨code9, ans9, w9, hcd, ⟨hzw, hdw⟩, hTW, hTM⟩ := t_choose l hl9 D g z0 (nAd z0 (z0 + 1)) (nAm (z0 + 98) (z0 + 99)) (z0 + 111) (nAd_inj (by omega)) (nAm_inj (by omega)) (nAo z0) z hz hdf (sx xs (i + 1)) (sx xs (i + 2)) sr1 sr2
  obtain ⟨rm9, ⟨r1, r2, r3, r4⟩, hMw⟩ := hTW rl ff v
  refine LL_call hI (vx_runSW (As := [.ref (nAd z0 (z0 + 1) 0), .int (jI (sx xs (i + 1))), .int (jI (sx xs (i + 2))), .ref (z0 + 111)]) (rest := []) ⟨hx, hb, hml, hown, hts⟩ hMw (vx_cwSW 4 hts (gd_S kw_253 kw_254 kw_11 kcL_choose) rfl r1 r2 (by decide +kernel) ⟨by show _ ≤ 12; omega, by show _ ≤ 436; omega⟩) (px_preS ⟨hI.1, hI.2.1⟩ hK hxT) rfl rfl hl.1 rfl (lv_room (Nat.le_of_ble_eq_true rfl)) dL_law_350 ⟨hcc, hss⟩) (fun H locs rl ff v hI hv => ?_)
  have hX : va_X b L xs s H := hX0.kept (hI.2.2.2.2.1 b hbl)
  refine lv_istore (lv' := [(5, .int (jI (code9))), (0, .ref b), (1, .ref (nAd z0 (z0 + 1) 0)), (2, .ref (nAm (z0 + 98) (z0 + 99) 0)), (3, .ref (z0 + 111)), (4, .int (jI ((i : Int))))]) hx hb dL_law_353 hl (by decide) rfl (fun ls hl => ?_)
  refine lv_aload_n hx hb dL_law_355 rfl (lv_at hl 3 rfl) ?_
  refine lv_aload_n hx hb dL_law_356 rfl (lv_at hl 1 rfl) ?_
  refine lv_iload hx hb dL_law_357 (lv_at hl 5 rfl) ?_
  refine jv_iconst hx hb dL_law_359 ?_
  refine jv_iadd hx hb dL_law_360 ?_
  refine jl_sld (j := (i + 1)) hx hb hX (by omega) (by omega) hL dL_law_361 ?_
  refine lv_aload_n hx hb dL_law_362 rfl (lv_at hl 1 rfl) ?_
  refine lv_iload hx hb dL_law_363 (lv_at hl 5 rfl) ?_
  refine jv_iconst hx hb dL_law_365 ?_
  refine jv_iadd hx hb dL_law_366 ?_
  refine jl_sld (j := (i + 2)) hx hb hX (by omega) (by omega) hL dL_law_367 ?_
  obtain ⟨rm8, b8, ⟨r1, r2, r3, r4⟩, hb8, hMm⟩ := hTM cd dv vo ab be AA hR
  refine LM_call hI (va_runV (As := [.int (jI (sx xs (i + 1))), .int (jI (sx xs (i + 2)))]) (rest := []) ⟨hx, hb, hml, hown, hts⟩ hMm (cwV 2 hts (gd_V kw_494 kw_495 kw_496 kw_16 kcX4_choose) rfl r1 r2 (by decide +kernel) ⟨by show _ ≤ 12; omega, by show _ ≤ 436; omega⟩) (pu_preV hI.2.2.1 hK rfl hI.2.2.1.1) rfl rfl hl.1 rfl (lv_room (Nat.le_of_ble_eq_true rfl)) dL_law_368 ⟨by show cells + 1 + 0 ≤ 665561; omega, by show slots + 6 + 0 ≤ 7099421; omega⟩) (fun H locs dv vo AA ab be hR hI => ?_)
  refine lv_istore (lv' := [(6, .int (jI (b8))), (5, .int (jI (code9))), (0, .ref b), (1, .ref (nAd z0 (z0 + 1) 0)), (2, .ref (nAm (z0 + 98) (z0 + 99) 0)), (3, .ref (z0 + 111)), (4, .int (jI ((i : Int))))]) hx hb dL_law_371 hl (by decide) rfl (fun ls hl => ?_)
  refine lv_aload_n hx hb dL_law_373 rfl (lv_at hl 4 rfl) ?_
  refine pu_call1 (va_runV (As := []) (rest := []) ⟨hx, hb, hml, hown, hts⟩ (k_thrown l D g (nAm (z0 + 98) (z0 + 99)) code9 dv vo ab be AA) (cwV 0 hts (gd_V kw_470 kw_471 kw_472 kw_16 kcX4_thrown) rfl rfl rfl (by decide +kernel) ⟨Nat.le_of_ble_eq_true rfl, Nat.le_of_ble_eq_true rfl⟩) (pu_preV hI.2.2.1 hK rfl hI.2.2.1.1) rfl rfl hl.1 rfl (lv_room (Nat.le_of_ble_eq_true rfl)) dL_law_374 ⟨by show cells + 1 + 0 ≤ 665561; omega, by show slots + 6 + 0 ≤ 7099421; omega⟩) ?_
  refine lv_iload hx hb dL_law_377 (lv_at hl 1 rfl) ?_
  refine jv_icmp_eq (tgt := 384) hx hb dL_law_379 (by decide) (by omega) (by omega) (fun c379 => ?_) (fun c379 => ?_)
  · refine lv_iload hx hb dL_law_384 (lv_at hl 1 rfl) ?_
    refine jv_if_ne (tgt := 401) hx hb dL_law_386 (by decide) (by omega) (fun c386 => ?_) (fun c386 => ?_)
    · refine lv_goto (tgt := 1083) hx hb dL_law_401 (by decide) ?_
      exact kk w9 rl ff v code9 dv vo ab be AA H locs ls hzw hdw hR hI (lv_sub hl [2, 3, 4, 5, 6] rfl)
    · have hv9 := hv c386
      have hb9 := hb8 c386
      refine lv_aload_n hx hb dL_law_389 rfl (lv_at hl 5 rfl) ?_
      refine jv_iconst hx hb dL_law_390 ?_
      refine jv_lald (i := 0) hx hb hK hI.2.1 4 rfl rfl (by decide) (by decide) dL_law_391 ?_
      refine lv_iload hx hb dL_law_392 (lv_at hl 0 rfl) ?_
      rw [← jI_cn b8]
      refine jv_i2l hx hb dL_law_394 (cn_rng _) ?_
      refine jv_lcmp_eq (tgt := 401) hx hb dL_law_395 dL_law_396 (by decide) (by have h9 := cn_rng ans9; omega) (by have h9 := cn_rng b8; omega) (fun c395 => ?_) (fun c395 => ?_)
      · refine lv_goto (tgt := 1083) hx hb dL_law_401 (by decide) ?_
        exact kk w9 rl ff v code9 dv vo ab be AA H locs ls hzw hdw hR hI (lv_sub hl [2, 3, 4, 5, 6] rfl)
      · exact absurd (by rw [hv9, hb9]) c395
  · exact absurd rfl c379
set_option maxHeartbeats 8000000 in
set_option maxRecDepth 100000 in
theorem lc_time (p : Program) (l : Launch) (e : Env) (s : State) (m : MethodId) (below : List Frame) (meth : Method) (c : Code) (b L : Nat) (xs : Nat → Int32) (D : va_G) (g : Nat → ClassId) (z0 : Nat) (Q : State → Prop) (G : lG l p s m c b L xs D g z0) (i cells slots : Nat) (hi : i + 5 ≤ L) (hcc : cells + 1 ≤ 665561) (hss : slots + 6 ≤ 7099421) (kk : lGo p l e s m below meth c b D g z0 Q i 1083 (cells + 1) (slots + 6)) : lGo p l e s m below meth c b D g z0 Q i 404 cells slots := by
  obtain ⟨hl9, hx, hb, hml, hown, hts, hK, hxT0, hX0, hbl, hL⟩ := G
  intro z rl ff v cd dv vo ab be AA H locs ls hz hdf hR hI hl
  have hX : va_X b L xs s H := hX0.kept (hI.2.2.2.2.1 b hbl)
  have hxT : xT z0 s H := hxT0.kept (fun a _ h2 => hI.2.2.2.2.1 a h2)
  have sr1 := sx_rng xs (i + 1)
  have sr2 := sx_rng xs (i + 2)
  have sr3 := sx_rng xs (i + 3)
  have sr4 := sx_rng xs (i + 4)
  refine lv_aload_n hx hb dL_law_404 rfl (lv_at hl 1 rfl) ?_
  refine lv_aload_n hx hb dL_law_405 rfl (lv_at hl 0 rfl) ?_
  refine lv_iload hx hb dL_law_406 (lv_at hl 4 rfl) ?_
  refine jv_iconst hx hb dL_law_408 ?_
  refine jv_iadd hx hb dL_law_409 ?_
  refine jl_sld (j := (i + 1)) hx hb hX (by omega) (by omega) hL dL_law_410 ?_
  refine lv_aload_n hx hb dL_law_411 rfl (lv_at hl 0 rfl) ?_
  refine lv_iload hx hb dL_law_412 (lv_at hl 4 rfl) ?_
  refine jv_iconst hx hb dL_law_414 ?_
  refine jv_iadd hx hb dL_law_415 ?_
  refine jl_sld (j := (i + 2)) hx hb hX (by omega) (by omega) hL dL_law_416 ?_
  refine lv_aload_n hx hb dL_law_417 rfl (lv_at hl 0 rfl) ?_
  refine lv_iload hx hb dL_law_418 (lv_at hl 4 rfl) ?_
  refine jv_iconst hx hb dL_law_420 ?_
  refine jv_iadd hx hb dL_law_421 ?_
  refine jl_sld (j := (i + 3)) hx hb hX (by omega) (by omega) hL dL_law_422 ?_
  refine jv_if_eq (tgt := 430) hx hb dL_law_423 (by decide) (by omega) (fun c423 => ?_) (fun c423 => ?_)
  · refine jv_iconst hx hb dL_law_430 ?_
    refine lv_aload_n hx hb dL_law_431 rfl (lv_at hl 3 rfl) ?_
    obtain ⟨code9, ans9, w9, hcd, ⟨hzw, hdw⟩, hTW, hTM⟩ := t_time l hl9 D g z0 (nAd z0 (z0 + 1)) (nAm (z0 + 98) (z0 + 99)) (z0 + 111) (nAd_inj (by omega)) (nAm_inj (by omega)) (nAo z0) z hz hdf (sx xs (i + 1)) (sx xs (i + 2)) false sr1 sr2
    obtain ⟨rm9, ⟨r1, r2, r3, r4⟩, hMw⟩ := hTW rl ff v
    refine LL_call hI (vx_runSW (As := [.ref (nAd z0 (z0 + 1) 0), .int (jI (sx xs (i + 1))), .int (jI (sx xs (i + 2))), .int (jI (bI false)), .ref (z0 + 111)]) (rest := []) ⟨hx, hb, hml, hown, hts⟩ hMw (vx_cwSW 5 hts (gd_S kw_260 kw_261 kw_11 kcL_time) rfl r1 r2 (by decide +kernel) ⟨by show _ ≤ 12; omega, by show _ ≤ 436; omega⟩) (px_preS ⟨hI.1, hI.2.1⟩ hK hxT) rfl rfl hl.1 rfl (lv_room (Nat.le_of_ble_eq_true rfl)) dL_law_432 ⟨hcc, hss⟩) (fun H locs rl ff v hI hv => ?_)
    have hX : va_X b L xs s H := hX0.kept (hI.2.2.2.2.1 b hbl)
    refine lv_istore (lv' := [(5, .int (jI (code9))), (0, .ref b), (1, .ref (nAd z0 (z0 + 1) 0)), (2, .ref (nAm (z0 + 98) (z0 + 99) 0)), (3, .ref (z0 + 111)), (4, .int (jI ((i : Int))))]) hx hb dL_law_435 hl (by decide) rfl (fun ls hl => ?_)
    refine lv_aload_n hx hb dL_law_437 rfl (lv_at hl 3 rfl) ?_
    refine lv_aload_n hx hb dL_law_438 rfl (lv_at hl 1 rfl) ?_
    refine lv_iload hx hb dL_law_439 (lv_at hl 5 rfl) ?_
    refine jv_iconst hx hb dL_law_441 ?_
    refine jv_iadd hx hb dL_law_442 ?_
    refine jl_sld (j := (i + 1)) hx hb hX (by omega) (by omega) hL dL_law_443 ?_
    refine lv_aload_n hx hb dL_law_444 rfl (lv_at hl 1 rfl) ?_
    refine lv_iload hx hb dL_law_445 (lv_at hl 5 rfl) ?_
    refine jv_iconst hx hb dL_law_447 ?_
    refine jv_iadd hx hb dL_law_448 ?_
    refine jl_sld (j := (i + 2)) hx hb hX (by omega) (by omega) hL dL_law_449 ?_
    refine lv_aload_n hx hb dL_law_450 rfl (lv_at hl 1 rfl) ?_
    refine lv_iload hx hb dL_law_451 (lv_at hl 5 rfl) ?_
    refine jv_iconst hx hb dL_law_453 ?_
    refine jv_iadd hx hb dL_law_454 ?_
    refine jl_sld (j := (i + 3)) hx hb hX (by omega) (by omega) hL dL_law_455 ?_
    refine jv_if_eq (tgt := 463) hx hb dL_law_456 (by decide) (by omega) (fun c456 => ?_) (fun c456 => ?_)
    · refine jv_iconst hx hb dL_law_463 ?_
      obtain ⟨rm8, b8, ⟨r1, r2, r3, r4⟩, hb8, hMm⟩ := hTM cd dv vo ab be AA hR
      refine LM_call hI (va_runV (As := [.int (jI (sx xs (i + 1))), .int (jI (sx xs (i + 2))), .int (jI (bI false))]) (rest := []) ⟨hx, hb, hml, hown, hts⟩ hMm (cwV 3 hts (gd_V kw_498 kw_499 kw_500 kw_16 kcX4_time) rfl r1 r2 (by decide +kernel) ⟨by show _ ≤ 12; omega, by show _ ≤ 436; omega⟩) (pu_preV hI.2.2.1 hK rfl hI.2.2.1.1) rfl rfl hl.1 rfl (lv_room (Nat.le_of_ble_eq_true rfl)) dL_law_464 ⟨by show cells + 1 + 0 ≤ 665561; omega, by show slots + 6 + 0 ≤ 7099421; omega⟩) (fun H locs dv vo AA ab be hR hI => ?_)
      refine lv_istore (lv' := [(6, .int (jI (b8))), (5, .int (jI (code9))), (0, .ref b), (1, .ref (nAd z0 (z0 + 1) 0)), (2, .ref (nAm (z0 + 98) (z0 + 99) 0)), (3, .ref (z0 + 111)), (4, .int (jI ((i : Int))))]) hx hb dL_law_467 hl (by decide) rfl (fun ls hl => ?_)
      refine lv_aload_n hx hb dL_law_469 rfl (lv_at hl 4 rfl) ?_
      refine pu_call1 (va_runV (As := []) (rest := []) ⟨hx, hb, hml, hown, hts⟩ (k_thrown l D g (nAm (z0 + 98) (z0 + 99)) code9 dv vo ab be AA) (cwV 0 hts (gd_V kw_470 kw_471 kw_472 kw_16 kcX4_thrown) rfl rfl rfl (by decide +kernel) ⟨Nat.le_of_ble_eq_true rfl, Nat.le_of_ble_eq_true rfl⟩) (pu_preV hI.2.2.1 hK rfl hI.2.2.1.1) rfl rfl hl.1 rfl (lv_room (Nat.le_of_ble_eq_true rfl)) dL_law_470 ⟨by show cells + 1 + 0 ≤ 665561; omega, by show slots + 6 + 0 ≤ 7099421; omega⟩) ?_
      refine lv_iload hx hb dL_law_473 (lv_at hl 1 rfl) ?_
      refine jv_icmp_eq (tgt := 480) hx hb dL_law_475 (by decide) (by omega) (by omega) (fun c475 => ?_) (fun c475 => ?_)
      · refine lv_iload hx hb dL_law_480 (lv_at hl 1 rfl) ?_
        refine jv_if_ne (tgt := 497) hx hb dL_law_482 (by decide) (by omega) (fun c482 => ?_) (fun c482 => ?_)
        · refine lv_goto (tgt := 1083) hx hb dL_law_497 (by decide) ?_
          exact kk w9 rl ff v code9 dv vo ab be AA H locs ls hzw hdw hR hI (lv_sub hl [2, 3, 4, 5, 6] rfl)
        · have hv9 := hv c482
          have hb9 := hb8 c482
          refine lv_aload_n hx hb dL_law_485 rfl (lv_at hl 5 rfl) ?_
          refine jv_iconst hx hb dL_law_486 ?_
          refine jv_lald (i := 0) hx hb hK hI.2.1 4 rfl rfl (by decide) (by decide) dL_law_487 ?_
          refine lv_iload hx hb dL_law_488 (lv_at hl 0 rfl) ?_
          rw [← jI_cn b8]
          refine jv_i2l hx hb dL_law_490 (cn_rng _) ?_
          refine jv_lcmp_eq (tgt := 497) hx hb dL_law_491 dL_law_492 (by decide) (by have h9 := cn_rng ans9; omega) (by have h9 := cn_rng b8; omega) (fun c491 => ?_) (fun c491 => ?_)
          · refine lv_goto (tgt := 1083) hx hb dL_law_497 (by decide) ?_
            exact kk w9 rl ff v code9 dv vo ab be AA H locs ls hzw hdw hR hI (lv_sub hl [2, 3, 4, 5, 6] rfl)
          · exact absurd (by rw [hv9, hb9]) c491
      · exact absurd rfl c475
    · exact absurd c423 c456
  · refine jv_iconst hx hb dL_law_426 ?_
    refine lv_goto (tgt := 431) hx hb dL_law_427 (by decide) ?_
    refine lv_aload_n hx hb dL_law_431 rfl (lv_at hl 3 rfl) ?_
    obtain ⟨code9, ans9, w9, hcd, ⟨hzw, hdw⟩, hTW, hTM⟩ := t_time l hl9 D g z0 (nAd z0 (z0 + 1)) (nAm (z0 + 98) (z0 + 99)) (z0 + 111) (nAd_inj (by omega)) (nAm_inj (by omega)) (nAo z0) z hz hdf (sx xs (i + 1)) (sx xs (i + 2)) true sr1 sr2
    obtain ⟨rm9, ⟨r1, r2, r3, r4⟩, hMw⟩ := hTW rl ff v
    refine LL_call hI (vx_runSW (As := [.ref (nAd z0 (z0 + 1) 0), .int (jI (sx xs (i + 1))), .int (jI (sx xs (i + 2))), .int (jI (bI true)), .ref (z0 + 111)]) (rest := []) ⟨hx, hb, hml, hown, hts⟩ hMw (vx_cwSW 5 hts (gd_S kw_260 kw_261 kw_11 kcL_time) rfl r1 r2 (by decide +kernel) ⟨by show _ ≤ 12; omega, by show _ ≤ 436; omega⟩) (px_preS ⟨hI.1, hI.2.1⟩ hK hxT) rfl rfl hl.1 rfl (lv_room (Nat.le_of_ble_eq_true rfl)) dL_law_432 ⟨hcc, hss⟩) (fun H locs rl ff v hI hv => ?_)
    have hX : va_X b L xs s H := hX0.kept (hI.2.2.2.2.1 b hbl)
    refine lv_istore (lv' := [(5, .int (jI (code9))), (0, .ref b), (1, .ref (nAd z0 (z0 + 1) 0)), (2, .ref (nAm (z0 + 98) (z0 + 99) 0)), (3, .ref (z0 + 111)), (4, .int (jI ((i : Int))))]) hx hb dL_law_435 hl (by decide) rfl (fun ls hl => ?_)
    refine lv_aload_n hx hb dL_law_437 rfl (lv_at hl 3 rfl) ?_
    refine lv_aload_n hx hb dL_law_438 rfl (lv_at hl 1 rfl) ?_
    refine lv_iload hx hb dL_law_439 (lv_at hl 5 rfl) ?_
    refine jv_iconst hx hb dL_law_441 ?_
    refine jv_iadd hx hb dL_law_442 ?_
    refine jl_sld (j := (i + 1)) hx hb hX (by omega) (by omega) hL dL_law_443 ?_
    refine lv_aload_n hx hb dL_law_444 rfl (lv_at hl 1 rfl) ?_
    refine lv_iload hx hb dL_law_445 (lv_at hl 5 rfl) ?_
    refine jv_iconst hx hb dL_law_447 ?_
    refine jv_iadd hx hb dL_law_448 ?_
    refine jl_sld (j := (i + 2)) hx hb hX (by omega) (by omega) hL dL_law_449 ?_
    refine lv_aload_n hx hb dL_law_450 rfl (lv_at hl 1 rfl) ?_
    refine lv_iload hx hb dL_law_451 (lv_at hl 5 rfl) ?_
    refine jv_iconst hx hb dL_law_453 ?_
    refine jv_iadd hx hb dL_law_454 ?_
    refine jl_sld (j := (i + 3)) hx hb hX (by omega) (by omega) hL dL_law_455 ?_
    refine jv_if_eq (tgt := 463) hx hb dL_law_456 (by decide) (by omega) (fun c456 => ?_) (fun c456 => ?_)
    · exact absurd c456 c423
    · refine jv_iconst hx hb dL_law_459 ?_
      refine lv_goto (tgt := 464) hx hb dL_law_460 (by decide) ?_
      obtain ⟨rm8, b8, ⟨r1, r2, r3, r4⟩, hb8, hMm⟩ := hTM cd dv vo ab be AA hR
      refine LM_call hI (va_runV (As := [.int (jI (sx xs (i + 1))), .int (jI (sx xs (i + 2))), .int (jI (bI true))]) (rest := []) ⟨hx, hb, hml, hown, hts⟩ hMm (cwV 3 hts (gd_V kw_498 kw_499 kw_500 kw_16 kcX4_time) rfl r1 r2 (by decide +kernel) ⟨by show _ ≤ 12; omega, by show _ ≤ 436; omega⟩) (pu_preV hI.2.2.1 hK rfl hI.2.2.1.1) rfl rfl hl.1 rfl (lv_room (Nat.le_of_ble_eq_true rfl)) dL_law_464 ⟨by show cells + 1 + 0 ≤ 665561; omega, by show slots + 6 + 0 ≤ 7099421; omega⟩) (fun H locs dv vo AA ab be hR hI => ?_)
      refine lv_istore (lv' := [(6, .int (jI (b8))), (5, .int (jI (code9))), (0, .ref b), (1, .ref (nAd z0 (z0 + 1) 0)), (2, .ref (nAm (z0 + 98) (z0 + 99) 0)), (3, .ref (z0 + 111)), (4, .int (jI ((i : Int))))]) hx hb dL_law_467 hl (by decide) rfl (fun ls hl => ?_)
      refine lv_aload_n hx hb dL_law_469 rfl (lv_at hl 4 rfl) ?_
      refine pu_call1 (va_runV (As := []) (rest := []) ⟨hx, hb, hml, hown, hts⟩ (k_thrown l D g (nAm (z0 + 98) (z0 + 99)) code9 dv vo ab be AA) (cwV 0 hts (gd_V kw_470 kw_471 kw_472 kw_16 kcX4_thrown) rfl rfl rfl (by decide +kernel) ⟨Nat.le_of_ble_eq_true rfl, Nat.le_of_ble_eq_true rfl⟩) (pu_preV hI.2.2.1 hK rfl hI.2.2.1.1) rfl rfl hl.1 rfl (lv_room (Nat.le_of_ble_eq_true rfl)) dL_law_470 ⟨by show cells + 1 + 0 ≤ 665561; omega, by show slots + 6 + 0 ≤ 7099421; omega⟩) ?_
      refine lv_iload hx hb dL_law_473 (lv_at hl 1 rfl) ?_
      refine jv_icmp_eq (tgt := 480) hx hb dL_law_475 (by decide) (by omega) (by omega) (fun c475 => ?_) (fun c475 => ?_)
      · refine lv_iload hx hb dL_law_480 (lv_at hl 1 rfl) ?_
        refine jv_if_ne (tgt := 497) hx hb dL_law_482 (by decide) (by omega) (fun c482 => ?_) (fun c482 => ?_)
        · refine lv_goto (tgt := 1083) hx hb dL_law_497 (by decide) ?_
          exact kk w9 rl ff v code9 dv vo ab be AA H locs ls hzw hdw hR hI (lv_sub hl [2, 3, 4, 5, 6] rfl)
        · have hv9 := hv c482
          have hb9 := hb8 c482
          refine lv_aload_n hx hb dL_law_485 rfl (lv_at hl 5 rfl) ?_
          refine jv_iconst hx hb dL_law_486 ?_
          refine jv_lald (i := 0) hx hb hK hI.2.1 4 rfl rfl (by decide) (by decide) dL_law_487 ?_
          refine lv_iload hx hb dL_law_488 (lv_at hl 0 rfl) ?_
          rw [← jI_cn b8]
          refine jv_i2l hx hb dL_law_490 (cn_rng _) ?_
          refine jv_lcmp_eq (tgt := 497) hx hb dL_law_491 dL_law_492 (by decide) (by have h9 := cn_rng ans9; omega) (by have h9 := cn_rng b8; omega) (fun c491 => ?_) (fun c491 => ?_)
          · refine lv_goto (tgt := 1083) hx hb dL_law_497 (by decide) ?_
            exact kk w9 rl ff v code9 dv vo ab be AA H locs ls hzw hdw hR hI (lv_sub hl [2, 3, 4, 5, 6] rfl)
          · exact absurd (by rw [hv9, hb9]) c491
      · exact absurd rfl c475
set_option maxHeartbeats 8000000 in
set_option maxRecDepth 100000 in
theorem lc_opensFrom (p : Program) (l : Launch) (e : Env) (s : State) (m : MethodId) (below : List Frame) (meth : Method) (c : Code) (b L : Nat) (xs : Nat → Int32) (D : va_G) (g : Nat → ClassId) (z0 : Nat) (Q : State → Prop) (G : lG l p s m c b L xs D g z0) (i cells slots : Nat) (hi : i + 5 ≤ L) (hcc : cells + 1 ≤ 665561) (hss : slots + 6 ≤ 7099421) (kk : lGo p l e s m below meth c b D g z0 Q i 1083 (cells + 1) (slots + 6)) : lGo p l e s m below meth c b D g z0 Q i 500 cells slots := by
  obtain ⟨hl9, hx, hb, hml, hown, hts, hK, hxT0, hX0, hbl, hL⟩ := G
  intro z rl ff v cd dv vo ab be AA H locs ls hz hdf hR hI hl
  have hX : va_X b L xs s H := hX0.kept (hI.2.2.2.2.1 b hbl)
  have hxT : xT z0 s H := hxT0.kept (fun a _ h2 => hI.2.2.2.2.1 a h2)
  have sr1 := sx_rng xs (i + 1)
  have sr2 := sx_rng xs (i + 2)
  have sr3 := sx_rng xs (i + 3)
  have sr4 := sx_rng xs (i + 4)
  refine lv_aload_n hx hb dL_law_500 rfl (lv_at hl 1 rfl) ?_
  refine lv_aload_n hx hb dL_law_501 rfl (lv_at hl 0 rfl) ?_
  refine lv_iload hx hb dL_law_502 (lv_at hl 4 rfl) ?_
  refine jv_iconst hx hb dL_law_504 ?_
  refine jv_iadd hx hb dL_law_505 ?_
  refine jl_sld (j := (i + 1)) hx hb hX (by omega) (by omega) hL dL_law_506 ?_
  refine lv_aload_n hx hb dL_law_507 rfl (lv_at hl 3 rfl) ?_
  obtain ⟨code9, ans9, w9, hcd, ⟨hzw, hdw⟩, hTW, hTM⟩ := t_opensFrom l hl9 D g z0 (nAd z0 (z0 + 1)) (nAm (z0 + 98) (z0 + 99)) (z0 + 111) (nAd_inj (by omega)) (nAm_inj (by omega)) (nAo z0) z hz hdf (sx xs (i + 1)) sr1
  obtain ⟨rm9, ⟨r1, r2, r3, r4⟩, hMw⟩ := hTW rl ff v
  refine LL_call hI (vx_runSW (As := [.ref (nAd z0 (z0 + 1) 0), .int (jI (sx xs (i + 1))), .ref (z0 + 111)]) (rest := []) ⟨hx, hb, hml, hown, hts⟩ hMw (vx_cwSW 3 hts (gd_S kw_287 kw_288 kw_11 kcL_opensFrom) rfl r1 r2 (by decide +kernel) ⟨by show _ ≤ 12; omega, by show _ ≤ 436; omega⟩) (px_preS ⟨hI.1, hI.2.1⟩ hK hxT) rfl rfl hl.1 rfl (lv_room (Nat.le_of_ble_eq_true rfl)) dL_law_508 ⟨hcc, hss⟩) (fun H locs rl ff v hI hv => ?_)
  have hX : va_X b L xs s H := hX0.kept (hI.2.2.2.2.1 b hbl)
  refine lv_istore (lv' := [(5, .int (jI (code9))), (0, .ref b), (1, .ref (nAd z0 (z0 + 1) 0)), (2, .ref (nAm (z0 + 98) (z0 + 99) 0)), (3, .ref (z0 + 111)), (4, .int (jI ((i : Int))))]) hx hb dL_law_511 hl (by decide) rfl (fun ls hl => ?_)
  refine lv_aload_n hx hb dL_law_513 rfl (lv_at hl 3 rfl) ?_
  refine lv_aload_n hx hb dL_law_514 rfl (lv_at hl 1 rfl) ?_
  refine lv_iload hx hb dL_law_515 (lv_at hl 5 rfl) ?_
  refine jv_iconst hx hb dL_law_517 ?_
  refine jv_iadd hx hb dL_law_518 ?_
  refine jl_sld (j := (i + 1)) hx hb hX (by omega) (by omega) hL dL_law_519 ?_
  obtain ⟨rm8, b8, ⟨r1, r2, r3, r4⟩, hb8, hMm⟩ := hTM cd dv vo ab be AA hR
  refine LM_call hI (va_runV (As := [.int (jI (sx xs (i + 1)))]) (rest := []) ⟨hx, hb, hml, hown, hts⟩ hMm (cwV 1 hts (gd_V kw_511 kw_512 kw_513 kw_16 kcX4_opensFrom) rfl r1 r2 (by decide +kernel) ⟨by show _ ≤ 12; omega, by show _ ≤ 436; omega⟩) (pu_preV hI.2.2.1 hK rfl hI.2.2.1.1) rfl rfl hl.1 rfl (lv_room (Nat.le_of_ble_eq_true rfl)) dL_law_520 ⟨by show cells + 1 + 0 ≤ 665561; omega, by show slots + 6 + 0 ≤ 7099421; omega⟩) (fun H locs dv vo AA ab be hR hI => ?_)
  refine lv_istore (lv' := [(6, .int (jI (b8))), (5, .int (jI (code9))), (0, .ref b), (1, .ref (nAd z0 (z0 + 1) 0)), (2, .ref (nAm (z0 + 98) (z0 + 99) 0)), (3, .ref (z0 + 111)), (4, .int (jI ((i : Int))))]) hx hb dL_law_523 hl (by decide) rfl (fun ls hl => ?_)
  refine lv_aload_n hx hb dL_law_525 rfl (lv_at hl 4 rfl) ?_
  refine pu_call1 (va_runV (As := []) (rest := []) ⟨hx, hb, hml, hown, hts⟩ (k_thrown l D g (nAm (z0 + 98) (z0 + 99)) code9 dv vo ab be AA) (cwV 0 hts (gd_V kw_470 kw_471 kw_472 kw_16 kcX4_thrown) rfl rfl rfl (by decide +kernel) ⟨Nat.le_of_ble_eq_true rfl, Nat.le_of_ble_eq_true rfl⟩) (pu_preV hI.2.2.1 hK rfl hI.2.2.1.1) rfl rfl hl.1 rfl (lv_room (Nat.le_of_ble_eq_true rfl)) dL_law_526 ⟨by show cells + 1 + 0 ≤ 665561; omega, by show slots + 6 + 0 ≤ 7099421; omega⟩) ?_
  refine lv_iload hx hb dL_law_529 (lv_at hl 1 rfl) ?_
  refine jv_icmp_eq (tgt := 536) hx hb dL_law_531 (by decide) (by omega) (by omega) (fun c531 => ?_) (fun c531 => ?_)
  · refine lv_iload hx hb dL_law_536 (lv_at hl 1 rfl) ?_
    refine jv_if_ne (tgt := 553) hx hb dL_law_538 (by decide) (by omega) (fun c538 => ?_) (fun c538 => ?_)
    · refine lv_goto (tgt := 1083) hx hb dL_law_553 (by decide) ?_
      exact kk w9 rl ff v code9 dv vo ab be AA H locs ls hzw hdw hR hI (lv_sub hl [2, 3, 4, 5, 6] rfl)
    · have hv9 := hv c538
      have hb9 := hb8 c538
      refine lv_aload_n hx hb dL_law_541 rfl (lv_at hl 5 rfl) ?_
      refine jv_iconst hx hb dL_law_542 ?_
      refine jv_lald (i := 0) hx hb hK hI.2.1 4 rfl rfl (by decide) (by decide) dL_law_543 ?_
      refine lv_iload hx hb dL_law_544 (lv_at hl 0 rfl) ?_
      rw [← jI_cn b8]
      refine jv_i2l hx hb dL_law_546 (cn_rng _) ?_
      refine jv_lcmp_eq (tgt := 553) hx hb dL_law_547 dL_law_548 (by decide) (by have h9 := cn_rng ans9; omega) (by have h9 := cn_rng b8; omega) (fun c547 => ?_) (fun c547 => ?_)
      · refine lv_goto (tgt := 1083) hx hb dL_law_553 (by decide) ?_
        exact kk w9 rl ff v code9 dv vo ab be AA H locs ls hzw hdw hR hI (lv_sub hl [2, 3, 4, 5, 6] rfl)
      · exact absurd (by rw [hv9, hb9]) c547
  · exact absurd rfl c531
set_option maxHeartbeats 8000000 in
set_option maxRecDepth 100000 in
theorem lc_order (p : Program) (l : Launch) (e : Env) (s : State) (m : MethodId) (below : List Frame) (meth : Method) (c : Code) (b L : Nat) (xs : Nat → Int32) (D : va_G) (g : Nat → ClassId) (z0 : Nat) (Q : State → Prop) (G : lG l p s m c b L xs D g z0) (i cells slots : Nat) (hi : i + 5 ≤ L) (hcc : cells + 1 ≤ 665561) (hss : slots + 6 ≤ 7099421) (kk : lGo p l e s m below meth c b D g z0 Q i 1083 (cells + 1) (slots + 6)) : lGo p l e s m below meth c b D g z0 Q i 556 cells slots := by
  obtain ⟨hl9, hx, hb, hml, hown, hts, hK, hxT0, hX0, hbl, hL⟩ := G
  intro z rl ff v cd dv vo ab be AA H locs ls hz hdf hR hI hl
  have hX : va_X b L xs s H := hX0.kept (hI.2.2.2.2.1 b hbl)
  have hxT : xT z0 s H := hxT0.kept (fun a _ h2 => hI.2.2.2.2.1 a h2)
  have sr1 := sx_rng xs (i + 1)
  have sr2 := sx_rng xs (i + 2)
  have sr3 := sx_rng xs (i + 3)
  have sr4 := sx_rng xs (i + 4)
  refine lv_aload_n hx hb dL_law_556 rfl (lv_at hl 1 rfl) ?_
  refine lv_aload_n hx hb dL_law_557 rfl (lv_at hl 0 rfl) ?_
  refine lv_iload hx hb dL_law_558 (lv_at hl 4 rfl) ?_
  refine jv_iconst hx hb dL_law_560 ?_
  refine jv_iadd hx hb dL_law_561 ?_
  refine jl_sld (j := (i + 1)) hx hb hX (by omega) (by omega) hL dL_law_562 ?_
  refine lv_aload_n hx hb dL_law_563 rfl (lv_at hl 0 rfl) ?_
  refine lv_iload hx hb dL_law_564 (lv_at hl 4 rfl) ?_
  refine jv_iconst hx hb dL_law_566 ?_
  refine jv_iadd hx hb dL_law_567 ?_
  refine jl_sld (j := (i + 2)) hx hb hX (by omega) (by omega) hL dL_law_568 ?_
  refine lv_aload_n hx hb dL_law_569 rfl (lv_at hl 0 rfl) ?_
  refine lv_iload hx hb dL_law_570 (lv_at hl 4 rfl) ?_
  refine jv_iconst hx hb dL_law_572 ?_
  refine jv_iadd hx hb dL_law_573 ?_
  refine jl_sld (j := (i + 3)) hx hb hX (by omega) (by omega) hL dL_law_574 ?_
  refine lv_aload_n hx hb dL_law_575 rfl (lv_at hl 3 rfl) ?_
  obtain ⟨code9, ans9, w9, hcd, ⟨hzw, hdw⟩, hTW, hTM⟩ := t_order l hl9 D g z0 (nAd z0 (z0 + 1)) (nAm (z0 + 98) (z0 + 99)) (z0 + 111) (nAd_inj (by omega)) (nAm_inj (by omega)) (nAo z0) z hz hdf (sx xs (i + 1)) (sx xs (i + 2)) (sx xs (i + 3)) sr1 sr2 sr3
  obtain ⟨rm9, ⟨r1, r2, r3, r4⟩, hMw⟩ := hTW rl ff v
  refine LL_call hI (vx_runSW (As := [.ref (nAd z0 (z0 + 1) 0), .int (jI (sx xs (i + 1))), .int (jI (sx xs (i + 2))), .int (jI (sx xs (i + 3))), .ref (z0 + 111)]) (rest := []) ⟨hx, hb, hml, hown, hts⟩ hMw (vx_cwSW 5 hts (gd_S kw_301 kw_302 kw_11 kcL_order) rfl r1 r2 (by decide +kernel) ⟨by show _ ≤ 12; omega, by show _ ≤ 436; omega⟩) (px_preS ⟨hI.1, hI.2.1⟩ hK hxT) rfl rfl hl.1 rfl (lv_room (Nat.le_of_ble_eq_true rfl)) dL_law_576 ⟨hcc, hss⟩) (fun H locs rl ff v hI hv => ?_)
  have hX : va_X b L xs s H := hX0.kept (hI.2.2.2.2.1 b hbl)
  refine lv_istore (lv' := [(5, .int (jI (code9))), (0, .ref b), (1, .ref (nAd z0 (z0 + 1) 0)), (2, .ref (nAm (z0 + 98) (z0 + 99) 0)), (3, .ref (z0 + 111)), (4, .int (jI ((i : Int))))]) hx hb dL_law_579 hl (by decide) rfl (fun ls hl => ?_)
  refine lv_aload_n hx hb dL_law_581 rfl (lv_at hl 3 rfl) ?_
  refine lv_aload_n hx hb dL_law_582 rfl (lv_at hl 1 rfl) ?_
  refine lv_iload hx hb dL_law_583 (lv_at hl 5 rfl) ?_
  refine jv_iconst hx hb dL_law_585 ?_
  refine jv_iadd hx hb dL_law_586 ?_
  refine jl_sld (j := (i + 1)) hx hb hX (by omega) (by omega) hL dL_law_587 ?_
  refine lv_aload_n hx hb dL_law_588 rfl (lv_at hl 1 rfl) ?_
  refine lv_iload hx hb dL_law_589 (lv_at hl 5 rfl) ?_
  refine jv_iconst hx hb dL_law_591 ?_
  refine jv_iadd hx hb dL_law_592 ?_
  refine jl_sld (j := (i + 2)) hx hb hX (by omega) (by omega) hL dL_law_593 ?_
  refine lv_aload_n hx hb dL_law_594 rfl (lv_at hl 1 rfl) ?_
  refine lv_iload hx hb dL_law_595 (lv_at hl 5 rfl) ?_
  refine jv_iconst hx hb dL_law_597 ?_
  refine jv_iadd hx hb dL_law_598 ?_
  refine jl_sld (j := (i + 3)) hx hb hX (by omega) (by omega) hL dL_law_599 ?_
  obtain ⟨rm8, b8, ⟨r1, r2, r3, r4⟩, hb8, hMm⟩ := hTM cd dv vo ab be AA hR
  refine LM_call hI (va_runV (As := [.int (jI (sx xs (i + 1))), .int (jI (sx xs (i + 2))), .int (jI (sx xs (i + 3)))]) (rest := []) ⟨hx, hb, hml, hown, hts⟩ hMm (cwV 3 hts (gd_V kw_515 kw_516 kw_517 kw_16 kcX4_order) rfl r1 r2 (by decide +kernel) ⟨by show _ ≤ 12; omega, by show _ ≤ 436; omega⟩) (pu_preV hI.2.2.1 hK rfl hI.2.2.1.1) rfl rfl hl.1 rfl (lv_room (Nat.le_of_ble_eq_true rfl)) dL_law_600 ⟨by show cells + 1 + 0 ≤ 665561; omega, by show slots + 6 + 0 ≤ 7099421; omega⟩) (fun H locs dv vo AA ab be hR hI => ?_)
  refine lv_istore (lv' := [(6, .int (jI (b8))), (5, .int (jI (code9))), (0, .ref b), (1, .ref (nAd z0 (z0 + 1) 0)), (2, .ref (nAm (z0 + 98) (z0 + 99) 0)), (3, .ref (z0 + 111)), (4, .int (jI ((i : Int))))]) hx hb dL_law_603 hl (by decide) rfl (fun ls hl => ?_)
  refine lv_aload_n hx hb dL_law_605 rfl (lv_at hl 4 rfl) ?_
  refine pu_call1 (va_runV (As := []) (rest := []) ⟨hx, hb, hml, hown, hts⟩ (k_thrown l D g (nAm (z0 + 98) (z0 + 99)) code9 dv vo ab be AA) (cwV 0 hts (gd_V kw_470 kw_471 kw_472 kw_16 kcX4_thrown) rfl rfl rfl (by decide +kernel) ⟨Nat.le_of_ble_eq_true rfl, Nat.le_of_ble_eq_true rfl⟩) (pu_preV hI.2.2.1 hK rfl hI.2.2.1.1) rfl rfl hl.1 rfl (lv_room (Nat.le_of_ble_eq_true rfl)) dL_law_606 ⟨by show cells + 1 + 0 ≤ 665561; omega, by show slots + 6 + 0 ≤ 7099421; omega⟩) ?_
  refine lv_iload hx hb dL_law_609 (lv_at hl 1 rfl) ?_
  refine jv_icmp_eq (tgt := 616) hx hb dL_law_611 (by decide) (by omega) (by omega) (fun c611 => ?_) (fun c611 => ?_)
  · refine lv_iload hx hb dL_law_616 (lv_at hl 1 rfl) ?_
    refine jv_if_ne (tgt := 633) hx hb dL_law_618 (by decide) (by omega) (fun c618 => ?_) (fun c618 => ?_)
    · refine lv_goto (tgt := 1083) hx hb dL_law_633 (by decide) ?_
      exact kk w9 rl ff v code9 dv vo ab be AA H locs ls hzw hdw hR hI (lv_sub hl [2, 3, 4, 5, 6] rfl)
    · have hv9 := hv c618
      have hb9 := hb8 c618
      refine lv_aload_n hx hb dL_law_621 rfl (lv_at hl 5 rfl) ?_
      refine jv_iconst hx hb dL_law_622 ?_
      refine jv_lald (i := 0) hx hb hK hI.2.1 4 rfl rfl (by decide) (by decide) dL_law_623 ?_
      refine lv_iload hx hb dL_law_624 (lv_at hl 0 rfl) ?_
      rw [← jI_cn b8]
      refine jv_i2l hx hb dL_law_626 (cn_rng _) ?_
      refine jv_lcmp_eq (tgt := 633) hx hb dL_law_627 dL_law_628 (by decide) (by have h9 := cn_rng ans9; omega) (by have h9 := cn_rng b8; omega) (fun c627 => ?_) (fun c627 => ?_)
      · refine lv_goto (tgt := 1083) hx hb dL_law_633 (by decide) ?_
        exact kk w9 rl ff v code9 dv vo ab be AA H locs ls hzw hdw hR hI (lv_sub hl [2, 3, 4, 5, 6] rfl)
      · exact absurd (by rw [hv9, hb9]) c627
  · exact absurd rfl c611
set_option maxHeartbeats 8000000 in
set_option maxRecDepth 100000 in
theorem lc_broken (p : Program) (l : Launch) (e : Env) (s : State) (m : MethodId) (below : List Frame) (meth : Method) (c : Code) (b L : Nat) (xs : Nat → Int32) (D : va_G) (g : Nat → ClassId) (z0 : Nat) (Q : State → Prop) (G : lG l p s m c b L xs D g z0) (i cells slots : Nat) (hi : i + 5 ≤ L) (hcc : cells + 1 ≤ 665561) (hss : slots + 6 ≤ 7099421) (kk : lGo p l e s m below meth c b D g z0 Q i 1083 (cells + 1) (slots + 6)) : lGo p l e s m below meth c b D g z0 Q i 636 cells slots := by
  obtain ⟨hl9, hx, hb, hml, hown, hts, hK, hxT0, hX0, hbl, hL⟩ := G
  intro z rl ff v cd dv vo ab be AA H locs ls hz hdf hR hI hl
  have hX : va_X b L xs s H := hX0.kept (hI.2.2.2.2.1 b hbl)
  have hxT : xT z0 s H := hxT0.kept (fun a _ h2 => hI.2.2.2.2.1 a h2)
  have sr1 := sx_rng xs (i + 1)
  have sr2 := sx_rng xs (i + 2)
  have sr3 := sx_rng xs (i + 3)
  have sr4 := sx_rng xs (i + 4)
  refine lv_aload_n hx hb dL_law_636 rfl (lv_at hl 1 rfl) ?_
  refine lv_aload_n hx hb dL_law_637 rfl (lv_at hl 0 rfl) ?_
  refine lv_iload hx hb dL_law_638 (lv_at hl 4 rfl) ?_
  refine jv_iconst hx hb dL_law_640 ?_
  refine jv_iadd hx hb dL_law_641 ?_
  refine jl_sld (j := (i + 1)) hx hb hX (by omega) (by omega) hL dL_law_642 ?_
  refine lv_aload_n hx hb dL_law_643 rfl (lv_at hl 0 rfl) ?_
  refine lv_iload hx hb dL_law_644 (lv_at hl 4 rfl) ?_
  refine jv_iconst hx hb dL_law_646 ?_
  refine jv_iadd hx hb dL_law_647 ?_
  refine jl_sld (j := (i + 2)) hx hb hX (by omega) (by omega) hL dL_law_648 ?_
  refine lv_aload_n hx hb dL_law_649 rfl (lv_at hl 0 rfl) ?_
  refine lv_iload hx hb dL_law_650 (lv_at hl 4 rfl) ?_
  refine jv_iconst hx hb dL_law_652 ?_
  refine jv_iadd hx hb dL_law_653 ?_
  refine jl_sld (j := (i + 3)) hx hb hX (by omega) (by omega) hL dL_law_654 ?_
  refine lv_aload_n hx hb dL_law_655 rfl (lv_at hl 3 rfl) ?_
  obtain ⟨code9, ans9, w9, hcd, ⟨hzw, hdw⟩, hTW, hTM⟩ := t_broken l hl9 D g z0 (nAd z0 (z0 + 1)) (nAm (z0 + 98) (z0 + 99)) (z0 + 111) (nAd_inj (by omega)) (nAm_inj (by omega)) (nAo z0) z hz hdf (sx xs (i + 1)) (sx xs (i + 2)) (sx xs (i + 3)) sr1 sr2 sr3
  obtain ⟨rm9, ⟨r1, r2, r3, r4⟩, hMw⟩ := hTW rl ff v
  refine LL_call hI (vx_runSW (As := [.ref (nAd z0 (z0 + 1) 0), .int (jI (sx xs (i + 1))), .int (jI (sx xs (i + 2))), .int (jI (sx xs (i + 3))), .ref (z0 + 111)]) (rest := []) ⟨hx, hb, hml, hown, hts⟩ hMw (vx_cwSW 5 hts (gd_S kw_333 kw_334 kw_11 kcL_broken) rfl r1 r2 (by decide +kernel) ⟨by show _ ≤ 12; omega, by show _ ≤ 436; omega⟩) (px_preS ⟨hI.1, hI.2.1⟩ hK hxT) rfl rfl hl.1 rfl (lv_room (Nat.le_of_ble_eq_true rfl)) dL_law_656 ⟨hcc, hss⟩) (fun H locs rl ff v hI hv => ?_)
  have hX : va_X b L xs s H := hX0.kept (hI.2.2.2.2.1 b hbl)
  refine lv_istore (lv' := [(5, .int (jI (code9))), (0, .ref b), (1, .ref (nAd z0 (z0 + 1) 0)), (2, .ref (nAm (z0 + 98) (z0 + 99) 0)), (3, .ref (z0 + 111)), (4, .int (jI ((i : Int))))]) hx hb dL_law_659 hl (by decide) rfl (fun ls hl => ?_)
  refine lv_aload_n hx hb dL_law_661 rfl (lv_at hl 3 rfl) ?_
  refine lv_aload_n hx hb dL_law_662 rfl (lv_at hl 1 rfl) ?_
  refine lv_iload hx hb dL_law_663 (lv_at hl 5 rfl) ?_
  refine jv_iconst hx hb dL_law_665 ?_
  refine jv_iadd hx hb dL_law_666 ?_
  refine jl_sld (j := (i + 1)) hx hb hX (by omega) (by omega) hL dL_law_667 ?_
  refine lv_aload_n hx hb dL_law_668 rfl (lv_at hl 1 rfl) ?_
  refine lv_iload hx hb dL_law_669 (lv_at hl 5 rfl) ?_
  refine jv_iconst hx hb dL_law_671 ?_
  refine jv_iadd hx hb dL_law_672 ?_
  refine jl_sld (j := (i + 2)) hx hb hX (by omega) (by omega) hL dL_law_673 ?_
  refine lv_aload_n hx hb dL_law_674 rfl (lv_at hl 1 rfl) ?_
  refine lv_iload hx hb dL_law_675 (lv_at hl 5 rfl) ?_
  refine jv_iconst hx hb dL_law_677 ?_
  refine jv_iadd hx hb dL_law_678 ?_
  refine jl_sld (j := (i + 3)) hx hb hX (by omega) (by omega) hL dL_law_679 ?_
  obtain ⟨rm8, b8, ⟨r1, r2, r3, r4⟩, hb8, hMm⟩ := hTM cd dv vo ab be AA hR
  refine LM_call hI (va_runV (As := [.int (jI (sx xs (i + 1))), .int (jI (sx xs (i + 2))), .int (jI (sx xs (i + 3)))]) (rest := []) ⟨hx, hb, hml, hown, hts⟩ hMm (cwV 3 hts (gd_V kw_527 kw_528 kw_529 kw_16 kcX4_broken) rfl r1 r2 (by decide +kernel) ⟨by show _ ≤ 12; omega, by show _ ≤ 436; omega⟩) (pu_preV hI.2.2.1 hK rfl hI.2.2.1.1) rfl rfl hl.1 rfl (lv_room (Nat.le_of_ble_eq_true rfl)) dL_law_680 ⟨by show cells + 1 + 0 ≤ 665561; omega, by show slots + 6 + 0 ≤ 7099421; omega⟩) (fun H locs dv vo AA ab be hR hI => ?_)
  refine lv_istore (lv' := [(6, .int (jI (b8))), (5, .int (jI (code9))), (0, .ref b), (1, .ref (nAd z0 (z0 + 1) 0)), (2, .ref (nAm (z0 + 98) (z0 + 99) 0)), (3, .ref (z0 + 111)), (4, .int (jI ((i : Int))))]) hx hb dL_law_683 hl (by decide) rfl (fun ls hl => ?_)
  refine lv_aload_n hx hb dL_law_685 rfl (lv_at hl 4 rfl) ?_
  refine pu_call1 (va_runV (As := []) (rest := []) ⟨hx, hb, hml, hown, hts⟩ (k_thrown l D g (nAm (z0 + 98) (z0 + 99)) code9 dv vo ab be AA) (cwV 0 hts (gd_V kw_470 kw_471 kw_472 kw_16 kcX4_thrown) rfl rfl rfl (by decide +kernel) ⟨Nat.le_of_ble_eq_true rfl, Nat.le_of_ble_eq_true rfl⟩) (pu_preV hI.2.2.1 hK rfl hI.2.2.1.1) rfl rfl hl.1 rfl (lv_room (Nat.le_of_ble_eq_true rfl)) dL_law_686 ⟨by show cells + 1 + 0 ≤ 665561; omega, by show slots + 6 + 0 ≤ 7099421; omega⟩) ?_
  refine lv_iload hx hb dL_law_689 (lv_at hl 1 rfl) ?_
  refine jv_icmp_eq (tgt := 696) hx hb dL_law_691 (by decide) (by omega) (by omega) (fun c691 => ?_) (fun c691 => ?_)
  · refine lv_iload hx hb dL_law_696 (lv_at hl 1 rfl) ?_
    refine jv_if_ne (tgt := 713) hx hb dL_law_698 (by decide) (by omega) (fun c698 => ?_) (fun c698 => ?_)
    · refine lv_goto (tgt := 1083) hx hb dL_law_713 (by decide) ?_
      exact kk w9 rl ff v code9 dv vo ab be AA H locs ls hzw hdw hR hI (lv_sub hl [2, 3, 4, 5, 6] rfl)
    · have hv9 := hv c698
      have hb9 := hb8 c698
      refine lv_aload_n hx hb dL_law_701 rfl (lv_at hl 5 rfl) ?_
      refine jv_iconst hx hb dL_law_702 ?_
      refine jv_lald (i := 0) hx hb hK hI.2.1 4 rfl rfl (by decide) (by decide) dL_law_703 ?_
      refine lv_iload hx hb dL_law_704 (lv_at hl 0 rfl) ?_
      rw [← jI_cn b8]
      refine jv_i2l hx hb dL_law_706 (cn_rng _) ?_
      refine jv_lcmp_eq (tgt := 713) hx hb dL_law_707 dL_law_708 (by decide) (by have h9 := cn_rng ans9; omega) (by have h9 := cn_rng b8; omega) (fun c707 => ?_) (fun c707 => ?_)
      · refine lv_goto (tgt := 1083) hx hb dL_law_713 (by decide) ?_
        exact kk w9 rl ff v code9 dv vo ab be AA H locs ls hzw hdw hR hI (lv_sub hl [2, 3, 4, 5, 6] rfl)
      · exact absurd (by rw [hv9, hb9]) c707
  · exact absurd rfl c691
set_option maxHeartbeats 8000000 in
set_option maxRecDepth 100000 in
theorem lc_settle (p : Program) (l : Launch) (e : Env) (s : State) (m : MethodId) (below : List Frame) (meth : Method) (c : Code) (b L : Nat) (xs : Nat → Int32) (D : va_G) (g : Nat → ClassId) (z0 : Nat) (Q : State → Prop) (G : lG l p s m c b L xs D g z0) (i cells slots : Nat) (hi : i + 5 ≤ L) (hcc : cells + 1 ≤ 665561) (hss : slots + 6 ≤ 7099421) (kk : lGo p l e s m below meth c b D g z0 Q i 1083 (cells + 1) (slots + 6)) : lGo p l e s m below meth c b D g z0 Q i 716 cells slots := by
  obtain ⟨hl9, hx, hb, hml, hown, hts, hK, hxT0, hX0, hbl, hL⟩ := G
  intro z rl ff v cd dv vo ab be AA H locs ls hz hdf hR hI hl
  have hX : va_X b L xs s H := hX0.kept (hI.2.2.2.2.1 b hbl)
  have hxT : xT z0 s H := hxT0.kept (fun a _ h2 => hI.2.2.2.2.1 a h2)
  have sr1 := sx_rng xs (i + 1)
  have sr2 := sx_rng xs (i + 2)
  have sr3 := sx_rng xs (i + 3)
  have sr4 := sx_rng xs (i + 4)
  refine lv_aload_n hx hb dL_law_716 rfl (lv_at hl 1 rfl) ?_
  refine lv_aload_n hx hb dL_law_717 rfl (lv_at hl 0 rfl) ?_
  refine lv_iload hx hb dL_law_718 (lv_at hl 4 rfl) ?_
  refine jv_iconst hx hb dL_law_720 ?_
  refine jv_iadd hx hb dL_law_721 ?_
  refine jl_sld (j := (i + 1)) hx hb hX (by omega) (by omega) hL dL_law_722 ?_
  refine lv_aload_n hx hb dL_law_723 rfl (lv_at hl 3 rfl) ?_
  obtain ⟨code9, ans9, w9, ha01, hcd, ⟨hzw, hdw⟩, hTW, hTM⟩ := t_settle l hl9 D g z0 (nAd z0 (z0 + 1)) (nAm (z0 + 98) (z0 + 99)) (z0 + 111) (nAd_inj (by omega)) (nAm_inj (by omega)) (nAo z0) z hz hdf (sx xs (i + 1)) sr1
  obtain ⟨rm9, ⟨r1, r2, r3, r4⟩, hMw⟩ := hTW rl ff v
  refine LL_call hI (vx_runSW (As := [.ref (nAd z0 (z0 + 1) 0), .int (jI (sx xs (i + 1))), .ref (z0 + 111)]) (rest := []) ⟨hx, hb, hml, hown, hts⟩ hMw (vx_cwSW 3 hts (gd_S kw_346 kw_347 kw_11 kcL_settle) rfl r1 r2 (by decide +kernel) ⟨by show _ ≤ 12; omega, by show _ ≤ 436; omega⟩) (px_preS ⟨hI.1, hI.2.1⟩ hK hxT) rfl rfl hl.1 rfl (lv_room (Nat.le_of_ble_eq_true rfl)) dL_law_724 ⟨hcc, hss⟩) (fun H locs rl ff v hI hv => ?_)
  have hX : va_X b L xs s H := hX0.kept (hI.2.2.2.2.1 b hbl)
  refine lv_istore (lv' := [(5, .int (jI (code9))), (0, .ref b), (1, .ref (nAd z0 (z0 + 1) 0)), (2, .ref (nAm (z0 + 98) (z0 + 99) 0)), (3, .ref (z0 + 111)), (4, .int (jI ((i : Int))))]) hx hb dL_law_727 hl (by decide) rfl (fun ls hl => ?_)
  refine lv_aload_n hx hb dL_law_729 rfl (lv_at hl 3 rfl) ?_
  refine lv_aload_n hx hb dL_law_730 rfl (lv_at hl 1 rfl) ?_
  refine lv_iload hx hb dL_law_731 (lv_at hl 5 rfl) ?_
  refine jv_iconst hx hb dL_law_733 ?_
  refine jv_iadd hx hb dL_law_734 ?_
  refine jl_sld (j := (i + 1)) hx hb hX (by omega) (by omega) hL dL_law_735 ?_
  obtain ⟨rm8, b8, ⟨r1, r2, r3, r4⟩, hb8, hMm⟩ := hTM cd dv vo ab be AA hR
  refine LM_call hI (va_runV (As := [.int (jI (sx xs (i + 1)))]) (rest := []) ⟨hx, hb, hml, hown, hts⟩ hMm (cwV 1 hts (gd_V kw_531 kw_532 kw_533 kw_16 kcX4_settle) rfl r1 r2 (by decide +kernel) ⟨by show _ ≤ 12; omega, by show _ ≤ 436; omega⟩) (pu_preV hI.2.2.1 hK rfl hI.2.2.1.1) rfl rfl hl.1 rfl (lv_room (Nat.le_of_ble_eq_true rfl)) dL_law_736 ⟨by show cells + 1 + 0 ≤ 665561; omega, by show slots + 6 + 0 ≤ 7099421; omega⟩) (fun H locs dv vo AA ab be hR hI => ?_)
  refine lv_istore (lv' := [(6, .int (jI (b8))), (5, .int (jI (code9))), (0, .ref b), (1, .ref (nAd z0 (z0 + 1) 0)), (2, .ref (nAm (z0 + 98) (z0 + 99) 0)), (3, .ref (z0 + 111)), (4, .int (jI ((i : Int))))]) hx hb dL_law_739 hl (by decide) rfl (fun ls hl => ?_)
  refine lv_aload_n hx hb dL_law_741 rfl (lv_at hl 4 rfl) ?_
  refine pu_call1 (va_runV (As := []) (rest := []) ⟨hx, hb, hml, hown, hts⟩ (k_thrown l D g (nAm (z0 + 98) (z0 + 99)) code9 dv vo ab be AA) (cwV 0 hts (gd_V kw_470 kw_471 kw_472 kw_16 kcX4_thrown) rfl rfl rfl (by decide +kernel) ⟨Nat.le_of_ble_eq_true rfl, Nat.le_of_ble_eq_true rfl⟩) (pu_preV hI.2.2.1 hK rfl hI.2.2.1.1) rfl rfl hl.1 rfl (lv_room (Nat.le_of_ble_eq_true rfl)) dL_law_742 ⟨by show cells + 1 + 0 ≤ 665561; omega, by show slots + 6 + 0 ≤ 7099421; omega⟩) ?_
  refine lv_iload hx hb dL_law_745 (lv_at hl 1 rfl) ?_
  refine jv_icmp_eq (tgt := 752) hx hb dL_law_747 (by decide) (by omega) (by omega) (fun c747 => ?_) (fun c747 => ?_)
  · refine lv_iload hx hb dL_law_752 (lv_at hl 1 rfl) ?_
    refine jv_if_ne (tgt := 776) hx hb dL_law_754 (by decide) (by omega) (fun c754 => ?_) (fun c754 => ?_)
    · refine lv_goto (tgt := 1083) hx hb dL_law_776 (by decide) ?_
      exact kk w9 rl ff v code9 dv vo ab be AA H locs ls hzw hdw hR hI (lv_sub hl [2, 3, 4, 5, 6] rfl)
    · have hv9 := hv c754
      have hb9 := hb8 c754
      refine lv_aload_n hx hb dL_law_757 rfl (lv_at hl 5 rfl) ?_
      refine jv_iconst hx hb dL_law_758 ?_
      refine jv_lald (i := 0) hx hb hK hI.2.1 4 rfl rfl (by decide) (by decide) dL_law_759 ?_
      refine lv_iload hx hb dL_law_760 (lv_at hl 0 rfl) ?_
      refine jv_if_eq (tgt := 769) hx hb dL_law_762 (by decide) (by omega) (fun c762 => ?_) (fun c762 => ?_)
      · refine jv_lconst (k := 0) hx hb dL_law_769 (by decide) ?_
        refine jv_lcmp_eq (tgt := 776) hx hb dL_law_770 dL_law_771 (by decide) (by have h9 := cn_rng ans9; omega) (by decide) (fun c770 => ?_) (fun c770 => ?_)
        · refine lv_goto (tgt := 1083) hx hb dL_law_776 (by decide) ?_
          exact kk w9 rl ff v code9 dv vo ab be AA H locs ls hzw hdw hR hI (lv_sub hl [2, 3, 4, 5, 6] rfl)
        · exact absurd (by rw [hv9, ← hb9, c762]; decide) c770
      · refine jv_lconst (k := 1) hx hb dL_law_765 (by decide) ?_
        refine lv_goto (tgt := 770) hx hb dL_law_766 (by decide) ?_
        refine jv_lcmp_eq (tgt := 776) hx hb dL_law_770 dL_law_771 (by decide) (by have h9 := cn_rng ans9; omega) (by decide) (fun c770 => ?_) (fun c770 => ?_)
        · refine lv_goto (tgt := 1083) hx hb dL_law_776 (by decide) ?_
          exact kk w9 rl ff v code9 dv vo ab be AA H locs ls hzw hdw hR hI (lv_sub hl [2, 3, 4, 5, 6] rfl)
        · exact absurd (by rw [hv9, show ans9 = 1 by omega]; decide) c770
  · exact absurd rfl c747
set_option maxHeartbeats 8000000 in
set_option maxRecDepth 100000 in
theorem lc_chosen (p : Program) (l : Launch) (e : Env) (s : State) (m : MethodId) (below : List Frame) (meth : Method) (c : Code) (b L : Nat) (xs : Nat → Int32) (D : va_G) (g : Nat → ClassId) (z0 : Nat) (Q : State → Prop) (G : lG l p s m c b L xs D g z0) (i cells slots : Nat) (hi : i + 5 ≤ L) (hcc : cells + 1 ≤ 665561) (hss : slots + 6 ≤ 7099421) (kk : lGo p l e s m below meth c b D g z0 Q i 1083 (cells + 1) (slots + 6)) : lGo p l e s m below meth c b D g z0 Q i 779 cells slots := by
  obtain ⟨hl9, hx, hb, hml, hown, hts, hK, hxT0, hX0, hbl, hL⟩ := G
  intro z rl ff v cd dv vo ab be AA H locs ls hz hdf hR hI hl
  have hX : va_X b L xs s H := hX0.kept (hI.2.2.2.2.1 b hbl)
  have hxT : xT z0 s H := hxT0.kept (fun a _ h2 => hI.2.2.2.2.1 a h2)
  have sr1 := sx_rng xs (i + 1)
  have sr2 := sx_rng xs (i + 2)
  have sr3 := sx_rng xs (i + 3)
  have sr4 := sx_rng xs (i + 4)
  refine lv_aload_n hx hb dL_law_779 rfl (lv_at hl 1 rfl) ?_
  refine lv_aload_n hx hb dL_law_780 rfl (lv_at hl 0 rfl) ?_
  refine lv_iload hx hb dL_law_781 (lv_at hl 4 rfl) ?_
  refine jv_iconst hx hb dL_law_783 ?_
  refine jv_iadd hx hb dL_law_784 ?_
  refine jl_sld (j := (i + 1)) hx hb hX (by omega) (by omega) hL dL_law_785 ?_
  refine lv_aload_n hx hb dL_law_786 rfl (lv_at hl 3 rfl) ?_
  obtain ⟨code9, ans9, w9, hcd, ⟨hzw, hdw⟩, hTW, hTM⟩ := t_chosen l hl9 D g z0 (nAd z0 (z0 + 1)) (nAm (z0 + 98) (z0 + 99)) (z0 + 111) (nAd_inj (by omega)) (nAm_inj (by omega)) (nAo z0) z hz hdf (sx xs (i + 1)) sr1
  obtain ⟨rm9, ⟨r1, r2, r3, r4⟩, hMw⟩ := hTW rl ff v
  refine LL_call hI (vx_runSW (As := [.ref (nAd z0 (z0 + 1) 0), .int (jI (sx xs (i + 1))), .ref (z0 + 111)]) (rest := []) ⟨hx, hb, hml, hown, hts⟩ hMw (vx_cwSW 3 hts (gd_S kw_363 kw_364 kw_11 kcL_chosen) rfl r1 r2 (by decide +kernel) ⟨by show _ ≤ 12; omega, by show _ ≤ 436; omega⟩) (px_preS ⟨hI.1, hI.2.1⟩ hK hxT) rfl rfl hl.1 rfl (lv_room (Nat.le_of_ble_eq_true rfl)) dL_law_787 ⟨hcc, hss⟩) (fun H locs rl ff v hI hv => ?_)
  have hX : va_X b L xs s H := hX0.kept (hI.2.2.2.2.1 b hbl)
  refine lv_istore (lv' := [(5, .int (jI (code9))), (0, .ref b), (1, .ref (nAd z0 (z0 + 1) 0)), (2, .ref (nAm (z0 + 98) (z0 + 99) 0)), (3, .ref (z0 + 111)), (4, .int (jI ((i : Int))))]) hx hb dL_law_790 hl (by decide) rfl (fun ls hl => ?_)
  refine lv_aload_n hx hb dL_law_792 rfl (lv_at hl 3 rfl) ?_
  refine lv_aload_n hx hb dL_law_793 rfl (lv_at hl 1 rfl) ?_
  refine lv_iload hx hb dL_law_794 (lv_at hl 5 rfl) ?_
  refine jv_iconst hx hb dL_law_796 ?_
  refine jv_iadd hx hb dL_law_797 ?_
  refine jl_sld (j := (i + 1)) hx hb hX (by omega) (by omega) hL dL_law_798 ?_
  obtain ⟨rm8, b8, ⟨r1, r2, r3, r4⟩, hb8, hMm⟩ := hTM cd dv vo ab be AA hR
  refine LM_call hI (va_runV (As := [.int (jI (sx xs (i + 1)))]) (rest := []) ⟨hx, hb, hml, hown, hts⟩ hMm (cwV 1 hts (gd_V kw_539 kw_540 kw_541 kw_16 kcX4_chosen) rfl r1 r2 (by decide +kernel) ⟨by show _ ≤ 12; omega, by show _ ≤ 436; omega⟩) (pu_preV hI.2.2.1 hK rfl hI.2.2.1.1) rfl rfl hl.1 rfl (lv_room (Nat.le_of_ble_eq_true rfl)) dL_law_799 ⟨by show cells + 1 + 0 ≤ 665561; omega, by show slots + 6 + 0 ≤ 7099421; omega⟩) (fun H locs dv vo AA ab be hR hI => ?_)
  refine lv_istore (lv' := [(6, .int (jI (b8))), (5, .int (jI (code9))), (0, .ref b), (1, .ref (nAd z0 (z0 + 1) 0)), (2, .ref (nAm (z0 + 98) (z0 + 99) 0)), (3, .ref (z0 + 111)), (4, .int (jI ((i : Int))))]) hx hb dL_law_802 hl (by decide) rfl (fun ls hl => ?_)
  refine lv_aload_n hx hb dL_law_804 rfl (lv_at hl 4 rfl) ?_
  refine pu_call1 (va_runV (As := []) (rest := []) ⟨hx, hb, hml, hown, hts⟩ (k_thrown l D g (nAm (z0 + 98) (z0 + 99)) code9 dv vo ab be AA) (cwV 0 hts (gd_V kw_470 kw_471 kw_472 kw_16 kcX4_thrown) rfl rfl rfl (by decide +kernel) ⟨Nat.le_of_ble_eq_true rfl, Nat.le_of_ble_eq_true rfl⟩) (pu_preV hI.2.2.1 hK rfl hI.2.2.1.1) rfl rfl hl.1 rfl (lv_room (Nat.le_of_ble_eq_true rfl)) dL_law_805 ⟨by show cells + 1 + 0 ≤ 665561; omega, by show slots + 6 + 0 ≤ 7099421; omega⟩) ?_
  refine lv_iload hx hb dL_law_808 (lv_at hl 1 rfl) ?_
  refine jv_icmp_eq (tgt := 815) hx hb dL_law_810 (by decide) (by omega) (by omega) (fun c810 => ?_) (fun c810 => ?_)
  · refine lv_iload hx hb dL_law_815 (lv_at hl 1 rfl) ?_
    refine jv_if_ne (tgt := 832) hx hb dL_law_817 (by decide) (by omega) (fun c817 => ?_) (fun c817 => ?_)
    · refine lv_goto (tgt := 1083) hx hb dL_law_832 (by decide) ?_
      exact kk w9 rl ff v code9 dv vo ab be AA H locs ls hzw hdw hR hI (lv_sub hl [2, 3, 4, 5, 6] rfl)
    · have hv9 := hv c817
      have hb9 := hb8 c817
      refine lv_aload_n hx hb dL_law_820 rfl (lv_at hl 5 rfl) ?_
      refine jv_iconst hx hb dL_law_821 ?_
      refine jv_lald (i := 0) hx hb hK hI.2.1 4 rfl rfl (by decide) (by decide) dL_law_822 ?_
      refine lv_iload hx hb dL_law_823 (lv_at hl 0 rfl) ?_
      rw [← jI_cn b8]
      refine jv_i2l hx hb dL_law_825 (cn_rng _) ?_
      refine jv_lcmp_eq (tgt := 832) hx hb dL_law_826 dL_law_827 (by decide) (by have h9 := cn_rng ans9; omega) (by have h9 := cn_rng b8; omega) (fun c826 => ?_) (fun c826 => ?_)
      · refine lv_goto (tgt := 1083) hx hb dL_law_832 (by decide) ?_
        exact kk w9 rl ff v code9 dv vo ab be AA H locs ls hzw hdw hR hI (lv_sub hl [2, 3, 4, 5, 6] rfl)
      · exact absurd (by rw [hv9, hb9]) c826
  · exact absurd rfl c810
set_option maxHeartbeats 8000000 in
set_option maxRecDepth 100000 in
theorem lc_impedance (p : Program) (l : Launch) (e : Env) (s : State) (m : MethodId) (below : List Frame) (meth : Method) (c : Code) (b L : Nat) (xs : Nat → Int32) (D : va_G) (g : Nat → ClassId) (z0 : Nat) (Q : State → Prop) (G : lG l p s m c b L xs D g z0) (i cells slots : Nat) (hi : i + 5 ≤ L) (hcc : cells + 1 ≤ 665561) (hss : slots + 6 ≤ 7099421) (kk : lGo p l e s m below meth c b D g z0 Q i 1083 (cells + 1) (slots + 6)) : lGo p l e s m below meth c b D g z0 Q i 835 cells slots := by
  obtain ⟨hl9, hx, hb, hml, hown, hts, hK, hxT0, hX0, hbl, hL⟩ := G
  intro z rl ff v cd dv vo ab be AA H locs ls hz hdf hR hI hl
  have hX : va_X b L xs s H := hX0.kept (hI.2.2.2.2.1 b hbl)
  have hxT : xT z0 s H := hxT0.kept (fun a _ h2 => hI.2.2.2.2.1 a h2)
  have sr1 := sx_rng xs (i + 1)
  have sr2 := sx_rng xs (i + 2)
  have sr3 := sx_rng xs (i + 3)
  have sr4 := sx_rng xs (i + 4)
  refine lv_aload_n hx hb dL_law_835 rfl (lv_at hl 1 rfl) ?_
  refine lv_aload_n hx hb dL_law_836 rfl (lv_at hl 0 rfl) ?_
  refine lv_iload hx hb dL_law_837 (lv_at hl 4 rfl) ?_
  refine jv_iconst hx hb dL_law_839 ?_
  refine jv_iadd hx hb dL_law_840 ?_
  refine jl_sld (j := (i + 1)) hx hb hX (by omega) (by omega) hL dL_law_841 ?_
  refine lv_aload_n hx hb dL_law_842 rfl (lv_at hl 0 rfl) ?_
  refine lv_iload hx hb dL_law_843 (lv_at hl 4 rfl) ?_
  refine jv_iconst hx hb dL_law_845 ?_
  refine jv_iadd hx hb dL_law_846 ?_
  refine jl_sld (j := (i + 2)) hx hb hX (by omega) (by omega) hL dL_law_847 ?_
  refine lv_aload_n hx hb dL_law_848 rfl (lv_at hl 3 rfl) ?_
  obtain ⟨code9, ans9, w9, hcd, ⟨hzw, hdw⟩, hTW, hTM⟩ := t_impedance l hl9 D g z0 (nAd z0 (z0 + 1)) (nAm (z0 + 98) (z0 + 99)) (z0 + 111) (nAd_inj (by omega)) (nAm_inj (by omega)) (nAo z0) z hz hdf (sx xs (i + 1)) (sx xs (i + 2)) sr1 sr2
  obtain ⟨rm9, ⟨r1, r2, r3, r4⟩, hMw⟩ := hTW rl ff v
  refine LL_call hI (vx_runSW (As := [.ref (nAd z0 (z0 + 1) 0), .int (jI (sx xs (i + 1))), .int (jI (sx xs (i + 2))), .ref (z0 + 111)]) (rest := []) ⟨hx, hb, hml, hown, hts⟩ hMw (vx_cwSW 4 hts (gd_S kw_370 kw_371 kw_11 kcL_impedance) rfl r1 r2 (by decide +kernel) ⟨by show _ ≤ 12; omega, by show _ ≤ 436; omega⟩) (px_preS ⟨hI.1, hI.2.1⟩ hK hxT) rfl rfl hl.1 rfl (lv_room (Nat.le_of_ble_eq_true rfl)) dL_law_849 ⟨hcc, hss⟩) (fun H locs rl ff v hI hv => ?_)
  have hX : va_X b L xs s H := hX0.kept (hI.2.2.2.2.1 b hbl)
  refine lv_istore (lv' := [(5, .int (jI (code9))), (0, .ref b), (1, .ref (nAd z0 (z0 + 1) 0)), (2, .ref (nAm (z0 + 98) (z0 + 99) 0)), (3, .ref (z0 + 111)), (4, .int (jI ((i : Int))))]) hx hb dL_law_852 hl (by decide) rfl (fun ls hl => ?_)
  refine lv_aload_n hx hb dL_law_854 rfl (lv_at hl 3 rfl) ?_
  refine lv_aload_n hx hb dL_law_855 rfl (lv_at hl 1 rfl) ?_
  refine lv_iload hx hb dL_law_856 (lv_at hl 5 rfl) ?_
  refine jv_iconst hx hb dL_law_858 ?_
  refine jv_iadd hx hb dL_law_859 ?_
  refine jl_sld (j := (i + 1)) hx hb hX (by omega) (by omega) hL dL_law_860 ?_
  refine lv_aload_n hx hb dL_law_861 rfl (lv_at hl 1 rfl) ?_
  refine lv_iload hx hb dL_law_862 (lv_at hl 5 rfl) ?_
  refine jv_iconst hx hb dL_law_864 ?_
  refine jv_iadd hx hb dL_law_865 ?_
  refine jl_sld (j := (i + 2)) hx hb hX (by omega) (by omega) hL dL_law_866 ?_
  obtain ⟨rm8, b8, ⟨r1, r2, r3, r4⟩, hb8, hMm⟩ := hTM cd dv vo ab be AA hR
  refine LM_call hI (va_runV (As := [.int (jI (sx xs (i + 1))), .int (jI (sx xs (i + 2)))]) (rest := []) ⟨hx, hb, hml, hown, hts⟩ hMm (cwV 2 hts (gd_V kw_543 kw_544 kw_545 kw_16 kcX4_impedance) rfl r1 r2 (by decide +kernel) ⟨by show _ ≤ 12; omega, by show _ ≤ 436; omega⟩) (pu_preV hI.2.2.1 hK rfl hI.2.2.1.1) rfl rfl hl.1 rfl (lv_room (Nat.le_of_ble_eq_true rfl)) dL_law_867 ⟨by show cells + 1 + 0 ≤ 665561; omega, by show slots + 6 + 0 ≤ 7099421; omega⟩) (fun H locs dv vo AA ab be hR hI => ?_)
  refine lv_istore (lv' := [(6, .int (jI (b8))), (5, .int (jI (code9))), (0, .ref b), (1, .ref (nAd z0 (z0 + 1) 0)), (2, .ref (nAm (z0 + 98) (z0 + 99) 0)), (3, .ref (z0 + 111)), (4, .int (jI ((i : Int))))]) hx hb dL_law_870 hl (by decide) rfl (fun ls hl => ?_)
  refine lv_aload_n hx hb dL_law_872 rfl (lv_at hl 4 rfl) ?_
  refine pu_call1 (va_runV (As := []) (rest := []) ⟨hx, hb, hml, hown, hts⟩ (k_thrown l D g (nAm (z0 + 98) (z0 + 99)) code9 dv vo ab be AA) (cwV 0 hts (gd_V kw_470 kw_471 kw_472 kw_16 kcX4_thrown) rfl rfl rfl (by decide +kernel) ⟨Nat.le_of_ble_eq_true rfl, Nat.le_of_ble_eq_true rfl⟩) (pu_preV hI.2.2.1 hK rfl hI.2.2.1.1) rfl rfl hl.1 rfl (lv_room (Nat.le_of_ble_eq_true rfl)) dL_law_873 ⟨by show cells + 1 + 0 ≤ 665561; omega, by show slots + 6 + 0 ≤ 7099421; omega⟩) ?_
  refine lv_iload hx hb dL_law_876 (lv_at hl 1 rfl) ?_
  refine jv_icmp_eq (tgt := 883) hx hb dL_law_878 (by decide) (by omega) (by omega) (fun c878 => ?_) (fun c878 => ?_)
  · refine lv_iload hx hb dL_law_883 (lv_at hl 1 rfl) ?_
    refine jv_if_ne (tgt := 900) hx hb dL_law_885 (by decide) (by omega) (fun c885 => ?_) (fun c885 => ?_)
    · refine lv_goto (tgt := 1083) hx hb dL_law_900 (by decide) ?_
      exact kk w9 rl ff v code9 dv vo ab be AA H locs ls hzw hdw hR hI (lv_sub hl [2, 3, 4, 5, 6] rfl)
    · have hv9 := hv c885
      have hb9 := hb8 c885
      refine lv_aload_n hx hb dL_law_888 rfl (lv_at hl 5 rfl) ?_
      refine jv_iconst hx hb dL_law_889 ?_
      refine jv_lald (i := 0) hx hb hK hI.2.1 4 rfl rfl (by decide) (by decide) dL_law_890 ?_
      refine lv_iload hx hb dL_law_891 (lv_at hl 0 rfl) ?_
      rw [← jI_cn b8]
      refine jv_i2l hx hb dL_law_893 (cn_rng _) ?_
      refine jv_lcmp_eq (tgt := 900) hx hb dL_law_894 dL_law_895 (by decide) (by have h9 := cn_rng ans9; omega) (by have h9 := cn_rng b8; omega) (fun c894 => ?_) (fun c894 => ?_)
      · refine lv_goto (tgt := 1083) hx hb dL_law_900 (by decide) ?_
        exact kk w9 rl ff v code9 dv vo ab be AA H locs ls hzw hdw hR hI (lv_sub hl [2, 3, 4, 5, 6] rfl)
      · exact absurd (by rw [hv9, hb9]) c894
  · exact absurd rfl c878
set_option maxHeartbeats 8000000 in
set_option maxRecDepth 100000 in
theorem lc_voltage (p : Program) (l : Launch) (e : Env) (s : State) (m : MethodId) (below : List Frame) (meth : Method) (c : Code) (b L : Nat) (xs : Nat → Int32) (D : va_G) (g : Nat → ClassId) (z0 : Nat) (Q : State → Prop) (G : lG l p s m c b L xs D g z0) (i cells slots : Nat) (hi : i + 5 ≤ L) (hcc : cells + 1 ≤ 665561) (hss : slots + 6 ≤ 7099421) (kk : lGo p l e s m below meth c b D g z0 Q i 1083 (cells + 1) (slots + 6)) : lGo p l e s m below meth c b D g z0 Q i 903 cells slots := by
  obtain ⟨hl9, hx, hb, hml, hown, hts, hK, hxT0, hX0, hbl, hL⟩ := G
  intro z rl ff v cd dv vo ab be AA H locs ls hz hdf hR hI hl
  have hX : va_X b L xs s H := hX0.kept (hI.2.2.2.2.1 b hbl)
  have hxT : xT z0 s H := hxT0.kept (fun a _ h2 => hI.2.2.2.2.1 a h2)
  have sr1 := sx_rng xs (i + 1)
  have sr2 := sx_rng xs (i + 2)
  have sr3 := sx_rng xs (i + 3)
  have sr4 := sx_rng xs (i + 4)
  refine lv_aload_n hx hb dL_law_903 rfl (lv_at hl 1 rfl) ?_
  refine lv_aload_n hx hb dL_law_904 rfl (lv_at hl 0 rfl) ?_
  refine lv_iload hx hb dL_law_905 (lv_at hl 4 rfl) ?_
  refine jv_iconst hx hb dL_law_907 ?_
  refine jv_iadd hx hb dL_law_908 ?_
  refine jl_sld (j := (i + 1)) hx hb hX (by omega) (by omega) hL dL_law_909 ?_
  refine lv_aload_n hx hb dL_law_910 rfl (lv_at hl 3 rfl) ?_
  obtain ⟨code9, ans9, w9, hcd, ⟨hzw, hdw⟩, hTW, hTM⟩ := t_voltage l hl9 D g z0 (nAd z0 (z0 + 1)) (nAm (z0 + 98) (z0 + 99)) (z0 + 111) (nAd_inj (by omega)) (nAm_inj (by omega)) (nAo z0) z hz hdf (sx xs (i + 1)) sr1
  obtain ⟨rm9, ⟨r1, r2, r3, r4⟩, hMw⟩ := hTW rl ff v
  refine LL_call hI (vx_runSW (As := [.ref (nAd z0 (z0 + 1) 0), .int (jI (sx xs (i + 1))), .ref (z0 + 111)]) (rest := []) ⟨hx, hb, hml, hown, hts⟩ hMw (vx_cwSW 3 hts (gd_S kw_377 kw_378 kw_11 kcL_voltage) rfl r1 r2 (by decide +kernel) ⟨by show _ ≤ 12; omega, by show _ ≤ 436; omega⟩) (px_preS ⟨hI.1, hI.2.1⟩ hK hxT) rfl rfl hl.1 rfl (lv_room (Nat.le_of_ble_eq_true rfl)) dL_law_911 ⟨hcc, hss⟩) (fun H locs rl ff v hI hv => ?_)
  have hX : va_X b L xs s H := hX0.kept (hI.2.2.2.2.1 b hbl)
  refine lv_istore (lv' := [(5, .int (jI (code9))), (0, .ref b), (1, .ref (nAd z0 (z0 + 1) 0)), (2, .ref (nAm (z0 + 98) (z0 + 99) 0)), (3, .ref (z0 + 111)), (4, .int (jI ((i : Int))))]) hx hb dL_law_914 hl (by decide) rfl (fun ls hl => ?_)
  refine lv_aload_n hx hb dL_law_916 rfl (lv_at hl 3 rfl) ?_
  refine lv_aload_n hx hb dL_law_917 rfl (lv_at hl 1 rfl) ?_
  refine lv_iload hx hb dL_law_918 (lv_at hl 5 rfl) ?_
  refine jv_iconst hx hb dL_law_920 ?_
  refine jv_iadd hx hb dL_law_921 ?_
  refine jl_sld (j := (i + 1)) hx hb hX (by omega) (by omega) hL dL_law_922 ?_
  obtain ⟨rm8, b8, ⟨r1, r2, r3, r4⟩, hb8, hMm⟩ := hTM cd dv vo ab be AA hR
  refine LM_call hI (va_runV (As := [.int (jI (sx xs (i + 1)))]) (rest := []) ⟨hx, hb, hml, hown, hts⟩ hMm (cwV 1 hts (gd_V kw_547 kw_548 kw_549 kw_16 kcX4_voltage) rfl r1 r2 (by decide +kernel) ⟨by show _ ≤ 12; omega, by show _ ≤ 436; omega⟩) (pu_preV hI.2.2.1 hK rfl hI.2.2.1.1) rfl rfl hl.1 rfl (lv_room (Nat.le_of_ble_eq_true rfl)) dL_law_923 ⟨by show cells + 1 + 0 ≤ 665561; omega, by show slots + 6 + 0 ≤ 7099421; omega⟩) (fun H locs dv vo AA ab be hR hI => ?_)
  refine lv_istore (lv' := [(6, .int (jI (b8))), (5, .int (jI (code9))), (0, .ref b), (1, .ref (nAd z0 (z0 + 1) 0)), (2, .ref (nAm (z0 + 98) (z0 + 99) 0)), (3, .ref (z0 + 111)), (4, .int (jI ((i : Int))))]) hx hb dL_law_926 hl (by decide) rfl (fun ls hl => ?_)
  refine lv_aload_n hx hb dL_law_928 rfl (lv_at hl 4 rfl) ?_
  refine pu_call1 (va_runV (As := []) (rest := []) ⟨hx, hb, hml, hown, hts⟩ (k_thrown l D g (nAm (z0 + 98) (z0 + 99)) code9 dv vo ab be AA) (cwV 0 hts (gd_V kw_470 kw_471 kw_472 kw_16 kcX4_thrown) rfl rfl rfl (by decide +kernel) ⟨Nat.le_of_ble_eq_true rfl, Nat.le_of_ble_eq_true rfl⟩) (pu_preV hI.2.2.1 hK rfl hI.2.2.1.1) rfl rfl hl.1 rfl (lv_room (Nat.le_of_ble_eq_true rfl)) dL_law_929 ⟨by show cells + 1 + 0 ≤ 665561; omega, by show slots + 6 + 0 ≤ 7099421; omega⟩) ?_
  refine lv_iload hx hb dL_law_932 (lv_at hl 1 rfl) ?_
  refine jv_icmp_eq (tgt := 939) hx hb dL_law_934 (by decide) (by omega) (by omega) (fun c934 => ?_) (fun c934 => ?_)
  · refine lv_iload hx hb dL_law_939 (lv_at hl 1 rfl) ?_
    refine jv_if_ne (tgt := 956) hx hb dL_law_941 (by decide) (by omega) (fun c941 => ?_) (fun c941 => ?_)
    · refine lv_goto (tgt := 1083) hx hb dL_law_956 (by decide) ?_
      exact kk w9 rl ff v code9 dv vo ab be AA H locs ls hzw hdw hR hI (lv_sub hl [2, 3, 4, 5, 6] rfl)
    · have hv9 := hv c941
      have hb9 := hb8 c941
      refine lv_aload_n hx hb dL_law_944 rfl (lv_at hl 5 rfl) ?_
      refine jv_iconst hx hb dL_law_945 ?_
      refine jv_lald (i := 0) hx hb hK hI.2.1 4 rfl rfl (by decide) (by decide) dL_law_946 ?_
      refine lv_iload hx hb dL_law_947 (lv_at hl 0 rfl) ?_
      rw [← jI_cn b8]
      refine jv_i2l hx hb dL_law_949 (cn_rng _) ?_
      refine jv_lcmp_eq (tgt := 956) hx hb dL_law_950 dL_law_951 (by decide) (by have h9 := cn_rng ans9; omega) (by have h9 := cn_rng b8; omega) (fun c950 => ?_) (fun c950 => ?_)
      · refine lv_goto (tgt := 1083) hx hb dL_law_956 (by decide) ?_
        exact kk w9 rl ff v code9 dv vo ab be AA H locs ls hzw hdw hR hI (lv_sub hl [2, 3, 4, 5, 6] rfl)
      · exact absurd (by rw [hv9, hb9]) c950
  · exact absurd rfl c934
set_option maxHeartbeats 8000000 in
set_option maxRecDepth 100000 in
theorem lc_shortAt (p : Program) (l : Launch) (e : Env) (s : State) (m : MethodId) (below : List Frame) (meth : Method) (c : Code) (b L : Nat) (xs : Nat → Int32) (D : va_G) (g : Nat → ClassId) (z0 : Nat) (Q : State → Prop) (G : lG l p s m c b L xs D g z0) (i cells slots : Nat) (hi : i + 5 ≤ L) (hcc : cells + 1 ≤ 665561) (hss : slots + 6 ≤ 7099421) (kk : lGo p l e s m below meth c b D g z0 Q i 1083 (cells + 1) (slots + 6)) : lGo p l e s m below meth c b D g z0 Q i 959 cells slots := by
  obtain ⟨hl9, hx, hb, hml, hown, hts, hK, hxT0, hX0, hbl, hL⟩ := G
  intro z rl ff v cd dv vo ab be AA H locs ls hz hdf hR hI hl
  have hX : va_X b L xs s H := hX0.kept (hI.2.2.2.2.1 b hbl)
  have hxT : xT z0 s H := hxT0.kept (fun a _ h2 => hI.2.2.2.2.1 a h2)
  have sr1 := sx_rng xs (i + 1)
  have sr2 := sx_rng xs (i + 2)
  have sr3 := sx_rng xs (i + 3)
  have sr4 := sx_rng xs (i + 4)
  refine lv_aload_n hx hb dL_law_959 rfl (lv_at hl 1 rfl) ?_
  refine lv_aload_n hx hb dL_law_960 rfl (lv_at hl 0 rfl) ?_
  refine lv_iload hx hb dL_law_961 (lv_at hl 4 rfl) ?_
  refine jv_iconst hx hb dL_law_963 ?_
  refine jv_iadd hx hb dL_law_964 ?_
  refine jl_sld (j := (i + 1)) hx hb hX (by omega) (by omega) hL dL_law_965 ?_
  refine lv_aload_n hx hb dL_law_966 rfl (lv_at hl 3 rfl) ?_
  obtain ⟨code9, ans9, w9, hcd, ⟨hzw, hdw⟩, hTW, hTM⟩ := t_shortAt l hl9 D g z0 (nAd z0 (z0 + 1)) (nAm (z0 + 98) (z0 + 99)) (z0 + 111) (nAd_inj (by omega)) (nAm_inj (by omega)) (nAo z0) z hz hdf (sx xs (i + 1)) sr1
  obtain ⟨rm9, ⟨r1, r2, r3, r4⟩, hMw⟩ := hTW rl ff v
  refine LL_call hI (vx_runSW (As := [.ref (nAd z0 (z0 + 1) 0), .int (jI (sx xs (i + 1))), .ref (z0 + 111)]) (rest := []) ⟨hx, hb, hml, hown, hts⟩ hMw (vx_cwSW 3 hts (gd_S kw_385 kw_386 kw_11 kcL_shortAt) rfl r1 r2 (by decide +kernel) ⟨by show _ ≤ 12; omega, by show _ ≤ 436; omega⟩) (px_preS ⟨hI.1, hI.2.1⟩ hK hxT) rfl rfl hl.1 rfl (lv_room (Nat.le_of_ble_eq_true rfl)) dL_law_967 ⟨hcc, hss⟩) (fun H locs rl ff v hI hv => ?_)
  have hX : va_X b L xs s H := hX0.kept (hI.2.2.2.2.1 b hbl)
  refine lv_istore (lv' := [(5, .int (jI (code9))), (0, .ref b), (1, .ref (nAd z0 (z0 + 1) 0)), (2, .ref (nAm (z0 + 98) (z0 + 99) 0)), (3, .ref (z0 + 111)), (4, .int (jI ((i : Int))))]) hx hb dL_law_970 hl (by decide) rfl (fun ls hl => ?_)
  refine lv_aload_n hx hb dL_law_972 rfl (lv_at hl 3 rfl) ?_
  refine lv_aload_n hx hb dL_law_973 rfl (lv_at hl 1 rfl) ?_
  refine lv_iload hx hb dL_law_974 (lv_at hl 5 rfl) ?_
  refine jv_iconst hx hb dL_law_976 ?_
  refine jv_iadd hx hb dL_law_977 ?_
  refine jl_sld (j := (i + 1)) hx hb hX (by omega) (by omega) hL dL_law_978 ?_
  obtain ⟨rm8, b8, ⟨r1, r2, r3, r4⟩, hb8, hMm⟩ := hTM cd dv vo ab be AA hR
  refine LM_call hI (va_runV (As := [.int (jI (sx xs (i + 1)))]) (rest := []) ⟨hx, hb, hml, hown, hts⟩ hMm (cwV 1 hts (gd_V kw_552 kw_553 kw_554 kw_16 kcX4_shortAt) rfl r1 r2 (by decide +kernel) ⟨by show _ ≤ 12; omega, by show _ ≤ 436; omega⟩) (pu_preV hI.2.2.1 hK rfl hI.2.2.1.1) rfl rfl hl.1 rfl (lv_room (Nat.le_of_ble_eq_true rfl)) dL_law_979 ⟨by show cells + 1 + 0 ≤ 665561; omega, by show slots + 6 + 0 ≤ 7099421; omega⟩) (fun H locs dv vo AA ab be hR hI => ?_)
  refine lv_istore (lv' := [(6, .int (jI (b8))), (5, .int (jI (code9))), (0, .ref b), (1, .ref (nAd z0 (z0 + 1) 0)), (2, .ref (nAm (z0 + 98) (z0 + 99) 0)), (3, .ref (z0 + 111)), (4, .int (jI ((i : Int))))]) hx hb dL_law_982 hl (by decide) rfl (fun ls hl => ?_)
  refine lv_aload_n hx hb dL_law_984 rfl (lv_at hl 4 rfl) ?_
  refine pu_call1 (va_runV (As := []) (rest := []) ⟨hx, hb, hml, hown, hts⟩ (k_thrown l D g (nAm (z0 + 98) (z0 + 99)) code9 dv vo ab be AA) (cwV 0 hts (gd_V kw_470 kw_471 kw_472 kw_16 kcX4_thrown) rfl rfl rfl (by decide +kernel) ⟨Nat.le_of_ble_eq_true rfl, Nat.le_of_ble_eq_true rfl⟩) (pu_preV hI.2.2.1 hK rfl hI.2.2.1.1) rfl rfl hl.1 rfl (lv_room (Nat.le_of_ble_eq_true rfl)) dL_law_985 ⟨by show cells + 1 + 0 ≤ 665561; omega, by show slots + 6 + 0 ≤ 7099421; omega⟩) ?_
  refine lv_iload hx hb dL_law_988 (lv_at hl 1 rfl) ?_
  refine jv_icmp_eq (tgt := 995) hx hb dL_law_990 (by decide) (by omega) (by omega) (fun c990 => ?_) (fun c990 => ?_)
  · refine lv_iload hx hb dL_law_995 (lv_at hl 1 rfl) ?_
    refine jv_if_ne (tgt := 1012) hx hb dL_law_997 (by decide) (by omega) (fun c997 => ?_) (fun c997 => ?_)
    · refine lv_goto (tgt := 1083) hx hb dL_law_1012 (by decide) ?_
      exact kk w9 rl ff v code9 dv vo ab be AA H locs ls hzw hdw hR hI (lv_sub hl [2, 3, 4, 5, 6] rfl)
    · have hv9 := hv c997
      have hb9 := hb8 c997
      refine lv_aload_n hx hb dL_law_1000 rfl (lv_at hl 5 rfl) ?_
      refine jv_iconst hx hb dL_law_1001 ?_
      refine jv_lald (i := 0) hx hb hK hI.2.1 4 rfl rfl (by decide) (by decide) dL_law_1002 ?_
      refine lv_iload hx hb dL_law_1003 (lv_at hl 0 rfl) ?_
      rw [← jI_cn b8]
      refine jv_i2l hx hb dL_law_1005 (cn_rng _) ?_
      refine jv_lcmp_eq (tgt := 1012) hx hb dL_law_1006 dL_law_1007 (by decide) (by have h9 := cn_rng ans9; omega) (by have h9 := cn_rng b8; omega) (fun c1006 => ?_) (fun c1006 => ?_)
      · refine lv_goto (tgt := 1083) hx hb dL_law_1012 (by decide) ?_
        exact kk w9 rl ff v code9 dv vo ab be AA H locs ls hzw hdw hR hI (lv_sub hl [2, 3, 4, 5, 6] rfl)
      · exact absurd (by rw [hv9, hb9]) c1006
  · exact absurd rfl c990
set_option maxHeartbeats 8000000 in
set_option maxRecDepth 100000 in
theorem lc_opens (p : Program) (l : Launch) (e : Env) (s : State) (m : MethodId) (below : List Frame) (meth : Method) (c : Code) (b L : Nat) (xs : Nat → Int32) (D : va_G) (g : Nat → ClassId) (z0 : Nat) (Q : State → Prop) (G : lG l p s m c b L xs D g z0) (i cells slots : Nat) (hi : i + 5 ≤ L) (hcc : cells + 1 ≤ 665561) (hss : slots + 6 ≤ 7099421) (kk : lGo p l e s m below meth c b D g z0 Q i 1083 (cells + 1) (slots + 6)) : lGo p l e s m below meth c b D g z0 Q i 1015 cells slots := by
  obtain ⟨hl9, hx, hb, hml, hown, hts, hK, hxT0, hX0, hbl, hL⟩ := G
  intro z rl ff v cd dv vo ab be AA H locs ls hz hdf hR hI hl
  have hX : va_X b L xs s H := hX0.kept (hI.2.2.2.2.1 b hbl)
  have hxT : xT z0 s H := hxT0.kept (fun a _ h2 => hI.2.2.2.2.1 a h2)
  have sr1 := sx_rng xs (i + 1)
  have sr2 := sx_rng xs (i + 2)
  have sr3 := sx_rng xs (i + 3)
  have sr4 := sx_rng xs (i + 4)
  refine lv_aload_n hx hb dL_law_1015 rfl (lv_at hl 1 rfl) ?_
  refine lv_aload_n hx hb dL_law_1016 rfl (lv_at hl 0 rfl) ?_
  refine lv_iload hx hb dL_law_1017 (lv_at hl 4 rfl) ?_
  refine jv_iconst hx hb dL_law_1019 ?_
  refine jv_iadd hx hb dL_law_1020 ?_
  refine jl_sld (j := (i + 1)) hx hb hX (by omega) (by omega) hL dL_law_1021 ?_
  refine lv_aload_n hx hb dL_law_1022 rfl (lv_at hl 0 rfl) ?_
  refine lv_iload hx hb dL_law_1023 (lv_at hl 4 rfl) ?_
  refine jv_iconst hx hb dL_law_1025 ?_
  refine jv_iadd hx hb dL_law_1026 ?_
  refine jl_sld (j := (i + 2)) hx hb hX (by omega) (by omega) hL dL_law_1027 ?_
  refine lv_aload_n hx hb dL_law_1028 rfl (lv_at hl 3 rfl) ?_
  obtain ⟨code9, ans9, w9, hcd, ⟨hzw, hdw⟩, hTW, hTM⟩ := t_opens l hl9 D g z0 (nAd z0 (z0 + 1)) (nAm (z0 + 98) (z0 + 99)) (z0 + 111) (nAd_inj (by omega)) (nAm_inj (by omega)) (nAo z0) z hz hdf (sx xs (i + 1)) (sx xs (i + 2)) sr1 sr2
  obtain ⟨rm9, ⟨r1, r2, r3, r4⟩, hMw⟩ := hTW rl ff v
  refine LL_call hI (vx_runSW (As := [.ref (nAd z0 (z0 + 1) 0), .int (jI (sx xs (i + 1))), .int (jI (sx xs (i + 2))), .ref (z0 + 111)]) (rest := []) ⟨hx, hb, hml, hown, hts⟩ hMw (vx_cwSW 4 hts (gd_S kw_401 kw_402 kw_11 kcL_opens) rfl r1 r2 (by decide +kernel) ⟨by show _ ≤ 12; omega, by show _ ≤ 436; omega⟩) (px_preS ⟨hI.1, hI.2.1⟩ hK hxT) rfl rfl hl.1 rfl (lv_room (Nat.le_of_ble_eq_true rfl)) dL_law_1029 ⟨hcc, hss⟩) (fun H locs rl ff v hI hv => ?_)
  have hX : va_X b L xs s H := hX0.kept (hI.2.2.2.2.1 b hbl)
  refine lv_istore (lv' := [(5, .int (jI (code9))), (0, .ref b), (1, .ref (nAd z0 (z0 + 1) 0)), (2, .ref (nAm (z0 + 98) (z0 + 99) 0)), (3, .ref (z0 + 111)), (4, .int (jI ((i : Int))))]) hx hb dL_law_1032 hl (by decide) rfl (fun ls hl => ?_)
  refine lv_aload_n hx hb dL_law_1034 rfl (lv_at hl 3 rfl) ?_
  refine lv_aload_n hx hb dL_law_1035 rfl (lv_at hl 1 rfl) ?_
  refine lv_iload hx hb dL_law_1036 (lv_at hl 5 rfl) ?_
  refine jv_iconst hx hb dL_law_1038 ?_
  refine jv_iadd hx hb dL_law_1039 ?_
  refine jl_sld (j := (i + 1)) hx hb hX (by omega) (by omega) hL dL_law_1040 ?_
  refine lv_aload_n hx hb dL_law_1041 rfl (lv_at hl 1 rfl) ?_
  refine lv_iload hx hb dL_law_1042 (lv_at hl 5 rfl) ?_
  refine jv_iconst hx hb dL_law_1044 ?_
  refine jv_iadd hx hb dL_law_1045 ?_
  refine jl_sld (j := (i + 2)) hx hb hX (by omega) (by omega) hL dL_law_1046 ?_
  obtain ⟨rm8, b8, ⟨r1, r2, r3, r4⟩, hb8, hMm⟩ := hTM cd dv vo ab be AA hR
  refine LM_call hI (va_runV (As := [.int (jI (sx xs (i + 1))), .int (jI (sx xs (i + 2)))]) (rest := []) ⟨hx, hb, hml, hown, hts⟩ hMm (cwV 2 hts (gd_V kw_562 kw_563 kw_564 kw_16 kcX4_opens) rfl r1 r2 (by decide +kernel) ⟨by show _ ≤ 12; omega, by show _ ≤ 436; omega⟩) (pu_preV hI.2.2.1 hK rfl hI.2.2.1.1) rfl rfl hl.1 rfl (lv_room (Nat.le_of_ble_eq_true rfl)) dL_law_1047 ⟨by show cells + 1 + 0 ≤ 665561; omega, by show slots + 6 + 0 ≤ 7099421; omega⟩) (fun H locs dv vo AA ab be hR hI => ?_)
  refine lv_istore (lv' := [(6, .int (jI (b8))), (5, .int (jI (code9))), (0, .ref b), (1, .ref (nAd z0 (z0 + 1) 0)), (2, .ref (nAm (z0 + 98) (z0 + 99) 0)), (3, .ref (z0 + 111)), (4, .int (jI ((i : Int))))]) hx hb dL_law_1050 hl (by decide) rfl (fun ls hl => ?_)
  refine lv_aload_n hx hb dL_law_1052 rfl (lv_at hl 4 rfl) ?_
  refine pu_call1 (va_runV (As := []) (rest := []) ⟨hx, hb, hml, hown, hts⟩ (k_thrown l D g (nAm (z0 + 98) (z0 + 99)) code9 dv vo ab be AA) (cwV 0 hts (gd_V kw_470 kw_471 kw_472 kw_16 kcX4_thrown) rfl rfl rfl (by decide +kernel) ⟨Nat.le_of_ble_eq_true rfl, Nat.le_of_ble_eq_true rfl⟩) (pu_preV hI.2.2.1 hK rfl hI.2.2.1.1) rfl rfl hl.1 rfl (lv_room (Nat.le_of_ble_eq_true rfl)) dL_law_1053 ⟨by show cells + 1 + 0 ≤ 665561; omega, by show slots + 6 + 0 ≤ 7099421; omega⟩) ?_
  refine lv_iload hx hb dL_law_1056 (lv_at hl 1 rfl) ?_
  refine jv_icmp_eq (tgt := 1063) hx hb dL_law_1058 (by decide) (by omega) (by omega) (fun c1058 => ?_) (fun c1058 => ?_)
  · refine lv_iload hx hb dL_law_1063 (lv_at hl 1 rfl) ?_
    refine jv_if_ne (tgt := 1080) hx hb dL_law_1065 (by decide) (by omega) (fun c1065 => ?_) (fun c1065 => ?_)
    · refine lv_goto (tgt := 1083) hx hb dL_law_1080 (by decide) ?_
      exact kk w9 rl ff v code9 dv vo ab be AA H locs ls hzw hdw hR hI (lv_sub hl [2, 3, 4, 5, 6] rfl)
    · have hv9 := hv c1065
      have hb9 := hb8 c1065
      refine lv_aload_n hx hb dL_law_1068 rfl (lv_at hl 5 rfl) ?_
      refine jv_iconst hx hb dL_law_1069 ?_
      refine jv_lald (i := 0) hx hb hK hI.2.1 4 rfl rfl (by decide) (by decide) dL_law_1070 ?_
      refine lv_iload hx hb dL_law_1071 (lv_at hl 0 rfl) ?_
      rw [← jI_cn b8]
      refine jv_i2l hx hb dL_law_1073 (cn_rng _) ?_
      refine jv_lcmp_eq (tgt := 1080) hx hb dL_law_1074 dL_law_1075 (by decide) (by have h9 := cn_rng ans9; omega) (by have h9 := cn_rng b8; omega) (fun c1074 => ?_) (fun c1074 => ?_)
      · refine lv_goto (tgt := 1083) hx hb dL_law_1080 (by decide) ?_
        exact kk w9 rl ff v code9 dv vo ab be AA H locs ls hzw hdw hR hI (lv_sub hl [2, 3, 4, 5, 6] rfl)
      · exact absurd (by rw [hv9, hb9]) c1074
  · exact absurd rfl c1058
