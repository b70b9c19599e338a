def loInv (b : Nat) (D : va_G) (g : Nat → ClassId) (z0 : Nat) (s : State) (i : Nat) (H : Heap) (locs : List Loc) (k n : Nat) (ls : Array Slot) : Prop := ∃ (z : bSt) (rl : Nat → Nat → Bool) (ff : Nat → Nat → Int) (v cd dv vo ab be : Int) (AA : Nat → Nat → Int), (bOK z ∧ bDef z ∧ mR z dv vo AA) ∧ lI D g z0 s z rl ff v cd dv vo ab be AA H locs ∧ (k ≤ 200 + i ∧ n ≤ 2000 + 6 * i ∧ i ≤ 2560) ∧ lv_has ls 7 [(0, .ref b), (1, .ref (nAd z0 (z0 + 1) 0)), (2, .ref (nAm (z0 + 98) (z0 + 99) 0)), (3, .ref (z0 + 111)), (4, .int (jI ((i : Int))))]
set_option maxHeartbeats 8000000 in
set_option maxRecDepth 100000 in
theorem lo_loop (p : Program) (l : Launch) (e : Env) (s : State) (m : MethodId) (below : List Frame) (meth : Method) (c : Code) (b L : Nat) (xs : Nat → Int32) (D : va_G) (g : Nat → ClassId) (z0 : Nat) (hz0 : s.heap.size = z0) (G : lG l p s m c b L xs D g z0) (hr : meth.sig.returnType = ret) (hlocks : meth.locks = false) (H : Heap) (locs : List Loc) (k n : Nat) (ls : Array Slot) (h : loInv b D g z0 s 0 H locs k n ls) : W p l e room_1 s m #[Value.ref b] below meth c H locs k n (lw_Z below #[Value.ref b] s) (F0 m 23 ls []) := by
  refine jw_loopC (X := Nat) (fun i => 2570 - i) (fun i H locs k n ls => loInv b D g z0 s i H locs k n ls) ?_ 0 H locs k n ls h
  clear h
  intro i H locs k n ls hinv ih
  obtain ⟨z, rl, ff, v, cd, dv, vo, ab, be, AA, ⟨hz, hdf, hR⟩, hI, ⟨hk, hn, hi⟩, hl⟩ := hinv
  obtain ⟨hl9, hx, hb, hml, hown, hts, hK, hxT0, hX0, hbl, hL⟩ := id G
  have hX : va_X b L xs s H := hX0.kept (hI.2.2.2.2.1 b hbl)
  refine lv_iload hx hb dL_law_23 (lv_at hl 4 rfl) ?_
  refine lv_aload_n hx hb dL_law_25 rfl (lv_at hl 0 rfl) ?_
  refine jl_slen hx hb hX dL_law_26 ?_
  refine jv_iconst hx hb dL_law_27 ?_
  refine jv_isub hx hb dL_law_28 ?_
  refine jv_icmp_gt (tgt := 1089) hx hb dL_law_29 (by decide) (by omega) (by omega) (fun c29 => ?_) (fun c29 => ?_)
  · refine va_forget (fun q hq => by rw [hz0]; exact hI.2.2.2.2.2 q hq) ?_
    refine W.widen (k := 665561) (n := 7099421) (by omega) (by omega) ?_
    refine jv_iconst hx hb dL_law_1089 ?_
    rw [show jI 1 = (1 : Int32) from by decide]
    exact lw_ret hx hb hr hlocks dL_law_1090
  · refine lv_aload_n hx hb dL_law_32 rfl (lv_at hl 0 rfl) ?_
    refine lv_iload hx hb dL_law_33 (lv_at hl 4 rfl) ?_
    refine jl_sld (j := i) hx hb hX rfl (by omega) hL dL_law_35 ?_
    refine jv_bipush hx hb dL_law_36 (by decide) ?_
    refine lv_iand hx hb dL_law_38 ?_
    generalize jI (sx xs i) &&& jI 15 = x9
    have hk9 : lGo p l e s m below meth c b D g z0 (lw_Z below #[Value.ref b] s) i 1083 (k + 1) (n + 6) := by
      intro z rl ff v cd dv vo ab be AA H locs ls hz hdf hR hI hl
      refine lv_iinc (v := jI ((i : Int) + 5)) (lv' := [(4, .int (jI ((i : Int) + 5))), (0, .ref b), (1, .ref (nAd z0 (z0 + 1) 0)), (2, .ref (nAm (z0 + 98) (z0 + 99) 0)), (3, .ref (z0 + 111))]) hx hb dL_law_1083 hl (k := 4) rfl (jI_add _ _) (by decide) rfl (fun ls hl => ?_)
      refine lv_goto (tgt := 23) hx hb dL_law_1086 (by decide) ?_
      refine ih (i + 5) H locs (k + 1) (n + 6) ls ⟨z, rl, ff, v, cd, dv, vo, ab, be, AA, ⟨hz, hdf, hR⟩, hI, ⟨by omega, by omega, by omega⟩, ?_⟩ (by omega)
      rw [show ((i + 5 : Nat) : Int) = (i : Int) + 5 by omega]
      exact lv_sub hl [1, 2, 3, 4, 0] rfl
    rcases (show x9.toInt = 0 ∨ x9.toInt = 1 ∨ x9.toInt = 2 ∨ x9.toInt = 3 ∨ x9.toInt = 4 ∨ x9.toInt = 5 ∨ x9.toInt = 6 ∨ x9.toInt = 7 ∨ x9.toInt = 8 ∨ x9.toInt = 9 ∨ x9.toInt = 10 ∨ x9.toInt = 11 ∨ x9.toInt = 12 ∨ x9.toInt = 13 ∨ (x9.toInt < 0 ∨ 13 < x9.toInt) by omega) with h9 | h9 | h9 | h9 | h9 | h9 | h9 | h9 | h9 | h9 | h9 | h9 | h9 | h9 | h9
    · refine lv_tableIn (off := 69) (tgt := 108) hx hb dL_law_39 (by omega) (by omega) (by rw [h9]; rfl) (by decide) ?_
      exact lc_device p l e s m below meth c b L xs D g z0 _ G i k n (by omega) (by omega) (by omega) hk9 z rl ff v cd dv vo ab be AA H locs ls hz hdf hR hI hl
    · refine lv_tableIn (off := 125) (tgt := 164) hx hb dL_law_39 (by omega) (by omega) (by rw [h9]; rfl) (by decide) ?_
      exact lc_point p l e s m below meth c b L xs D g z0 _ G i k n (by omega) (by omega) (by omega) hk9 z rl ff v cd dv vo ab be AA H locs ls hz hdf hR hI hl
    · refine lv_tableIn (off := 217) (tgt := 256) hx hb dL_law_39 (by omega) (by omega) (by rw [h9]; rfl) (by decide) ?_
      exact lc_option p l e s m below meth c b L xs D g z0 _ G i k n (by omega) (by omega) (by omega) hk9 z rl ff v cd dv vo ab be AA H locs ls hz hdf hR hI hl
    · refine lv_tableIn (off := 297) (tgt := 336) hx hb dL_law_39 (by omega) (by omega) (by rw [h9]; rfl) (by decide) ?_
      exact lc_choose p l e s m below meth c b L xs D g z0 _ G i k n (by omega) (by omega) (by omega) hk9 z rl ff v cd dv vo ab be AA H locs ls hz hdf hR hI hl
    · refine lv_tableIn (off := 365) (tgt := 404) hx hb dL_law_39 (by omega) (by omega) (by rw [h9]; rfl) (by decide) ?_
      exact lc_time p l e s m below meth c b L xs D g z0 _ G i k n (by omega) (by omega) (by omega) hk9 z rl ff v cd dv vo ab be AA H locs ls hz hdf hR hI hl
    · refine lv_tableIn (off := 461) (tgt := 500) hx hb dL_law_39 (by omega) (by omega) (by rw [h9]; rfl) (by decide) ?_
      exact lc_opensFrom p l e s m below meth c b L xs D g z0 _ G i k n (by omega) (by omega) (by omega) hk9 z rl ff v cd dv vo ab be AA H locs ls hz hdf hR hI hl
    · refine lv_tableIn (off := 517) (tgt := 556) hx hb dL_law_39 (by omega) (by omega) (by rw [h9]; rfl) (by decide) ?_
      exact lc_order p l e s m below meth c b L xs D g z0 _ G i k n (by omega) (by omega) (by omega) hk9 z rl ff v cd dv vo ab be AA H locs ls hz hdf hR hI hl
    · refine lv_tableIn (off := 597) (tgt := 636) hx hb dL_law_39 (by omega) (by omega) (by rw [h9]; rfl) (by decide) ?_
      exact lc_broken p l e s m below meth c b L xs D g z0 _ G i k n (by omega) (by omega) (by omega) hk9 z rl ff v cd dv vo ab be AA H locs ls hz hdf hR hI hl
    · refine lv_tableIn (off := 677) (tgt := 716) hx hb dL_law_39 (by omega) (by omega) (by rw [h9]; rfl) (by decide) ?_
      exact lc_settle p l e s m below meth c b L xs D g z0 _ G i k n (by omega) (by omega) (by omega) hk9 z rl ff v cd dv vo ab be AA H locs ls hz hdf hR hI hl
    · refine lv_tableIn (off := 740) (tgt := 779) hx hb dL_law_39 (by omega) (by omega) (by rw [h9]; rfl) (by decide) ?_
      exact lc_chosen p l e s m below meth c b L xs D g z0 _ G i k n (by omega) (by omega) (by omega) hk9 z rl ff v cd dv vo ab be AA H locs ls hz hdf hR hI hl
    · refine lv_tableIn (off := 796) (tgt := 835) hx hb dL_law_39 (by omega) (by omega) (by rw [h9]; rfl) (by decide) ?_
      exact lc_impedance p l e s m below meth c b L xs D g z0 _ G i k n (by omega) (by omega) (by omega) hk9 z rl ff v cd dv vo ab be AA H locs ls hz hdf hR hI hl
    · refine lv_tableIn (off := 864) (tgt := 903) hx hb dL_law_39 (by omega) (by omega) (by rw [h9]; rfl) (by decide) ?_
      exact lc_voltage p l e s m below meth c b L xs D g z0 _ G i k n (by omega) (by omega) (by omega) hk9 z rl ff v cd dv vo ab be AA H locs ls hz hdf hR hI hl
    · refine lv_tableIn (off := 920) (tgt := 959) hx hb dL_law_39 (by omega) (by omega) (by rw [h9]; rfl) (by decide) ?_
      exact lc_shortAt p l e s m below meth c b L xs D g z0 _ G i k n (by omega) (by omega) (by omega) hk9 z rl ff v cd dv vo ab be AA H locs ls hz hdf hR hI hl
    · refine lv_tableIn (off := 976) (tgt := 1015) hx hb dL_law_39 (by omega) (by omega) (by rw [h9]; rfl) (by decide) ?_
      exact lc_opens p l e s m below meth c b L xs D g z0 _ G i k n (by omega) (by omega) (by omega) hk9 z rl ff v cd dv vo ab be AA H locs ls hz hdf hR hI hl
    · refine lv_tableOut (tgt := 1083) hx hb dL_law_39 h9 (by decide) ?_
      refine W.widen (k := k + 1) (n := n + 6) (by omega) (by omega) ?_
      exact hk9 z rl ff v cd dv vo ab be AA H locs ls hz hdf hR hI hl
