/-! both sides of a call -/
def tW (l : Launch) (D : va_G) (g : Nat → ClassId) (z0 : Nat) (ad : Nat → Nat) (ao : Nat) (y : MethodName) (ws : List Cond) (av : List Value) (z w : bSt) (code ans : Int) : Prop :=
  ∀ (rl : Nat → Nat → Bool) (ff : Nat → Nat → Int) (v0 : Int), ∃ rm : Room, (rm.cells = 1 ∧ rm.slots = 6 ∧ rm.frames ≤ 9 ∧ rm.locals ≤ 200) ∧ Met l y ws rm (lPc z0 av D g ad ao z rl ff v0) (lQ D g ad ao w code ans) 1 6 (lFr ad ao)
def tM (l : Launch) (D : va_G) (g : Nat → ClassId) (am : Nat → Nat) (y : MethodName) (ws : List Cond) (av : List Value) (z w : bSt) (code ans : Int) : Prop :=
  ∀ (cd dv vo ab be : Int) (AA : Nat → Nat → Int), mR z dv vo AA → ∃ (rm : Room) (b : Int), (rm.cells = 0 ∧ rm.slots = 0 ∧ rm.frames ≤ 9 ∧ rm.locals ≤ 200) ∧ (code = 0 → b = ans) ∧ Met l y ws rm (pu_Pc av D vwCl (ty9 g) (fun H => mW D g am cd dv vo ab be AA H)) (mQ D g am (some (.int (jI b))) (fun c n v A _ _ => c = code ∧ mR w n v A)) 0 0 (mFr am)
def tB (l : Launch) (D : va_G) (g : Nat → ClassId) (z0 : Nat) (ad am : Nat → Nat) (ao : Nat) (y y2 : MethodName) (ws ws2 : List Cond) (av : List Value) (z : bSt) : Prop :=
  ∃ (code ans : Int) (w : bSt), (0 ≤ code ∧ code ≤ 2) ∧ (bOK w ∧ bDef w) ∧ tW l D g z0 ad ao y ws (.ref (ad 0) :: (av ++ [.ref ao])) z w code ans ∧ tM l D g am y2 ws2 (.ref (am 0) :: av) z w code ans
def tBz (l : Launch) (D : va_G) (g : Nat → ClassId) (z0 : Nat) (ad am : Nat → Nat) (ao : Nat) (y y2 : MethodName) (ws ws2 : List Cond) (av : List Value) (z : bSt) : Prop :=
  ∃ (code ans : Int) (w : bSt), (ans = 0 ∨ ans = 1) ∧ (0 ≤ code ∧ code ≤ 2) ∧ (bOK w ∧ bDef w) ∧ tW l D g z0 ad ao y ws (.ref (ad 0) :: (av ++ [.ref ao])) z w code ans ∧ tM l D g am y2 ws2 (.ref (am 0) :: av) z w code ans
set_option maxRecDepth 100000 in
theorem t_device (l : Launch) (hl9 : l.stackTraces = false) (D : va_G) (g : Nat → ClassId) (z0 : Nat) (ad am : Nat → Nat) (ao : Nat) (hj : bInj ad) (hjm : mInj am) (hao : ∀ q, q < 98 → ao ≠ ad q) (z : bSt) (hz : bOK z) (hdf : bDef z) (u : Int) (h_u : -2147483648 ≤ u ∧ u < 2147483648) : tB l D g z0 ad am ao yL_device yX4_device wsL_device wsX4_device [.int (jI (u))] z := by
  have hN8 := hz.1
  by_cases hu1 : u = -1
  · subst hu1
    by_cases h8 : bN z = 8
    · exact ⟨2, 0, z, ⟨by decide, by decide⟩, ⟨hz, hdf⟩, fun rl ff v0 => ⟨_, ⟨rfl, rfl, Nat.le_of_ble_eq_true rfl, Nat.le_of_ble_eq_true rfl⟩, w_device3 l hl9 D g z0 ad z rl ff hz hj ao v0 hao h8⟩, fun cd dv vo ab be AA hR => ⟨_, 0, ⟨rfl, rfl, Nat.le_of_ble_eq_true rfl, Nat.le_of_ble_eq_true rfl⟩, fun h9 => absurd h9 (by decide), b_device2 l D g am cd dv vo ab be AA z hz hR (-1) (by decide) (Or.inl rfl) (by have := hR.1; omega) hjm⟩⟩
    · exact ⟨0, (bN z : Int), zN (zU z (bN z) none) (bN z + 1), ⟨by decide, by decide⟩, ⟨bOK_D hz rfl (by omega) (fun u h => nomatch h), bDef_D hdf rfl⟩, fun rl ff v0 => ⟨_, ⟨rfl, rfl, Nat.le_of_ble_eq_true rfl, Nat.le_of_ble_eq_true rfl⟩, w_device0 l hl9 D g z0 ad z rl ff hz hj ao v0 hao (bN z) rfl (by omega)⟩, fun cd dv vo ab be AA hR => ⟨_, (bN z : Int), ⟨rfl, rfl, Nat.le_of_ble_eq_true rfl, Nat.le_of_ble_eq_true rfl⟩, fun h9 => rfl, k_device0 l D g am cd dv vo ab be AA z hz hR hdf (bN z) rfl (by omega) hjm⟩⟩
  · by_cases hd0 : 0 ≤ u ∧ u ≤ (bN z : Int) - 1
    · obtain ⟨d, rfl⟩ : ∃ d : Nat, u = (d : Int) := ⟨u.toNat, by omega⟩
      have hd : d < bN z := by omega
      by_cases h8 : bN z = 8
      · exact ⟨2, 0, z, ⟨by decide, by decide⟩, ⟨hz, hdf⟩, fun rl ff v0 => ⟨_, ⟨rfl, rfl, Nat.le_of_ble_eq_true rfl, Nat.le_of_ble_eq_true rfl⟩, w_device4 l hl9 D g z0 ad z rl ff hz hj ao v0 hao d hd h8⟩, fun cd dv vo ab be AA hR => ⟨_, 0, ⟨rfl, rfl, Nat.le_of_ble_eq_true rfl, Nat.le_of_ble_eq_true rfl⟩, fun h9 => absurd h9 (by decide), b_device2 l D g am cd dv vo ab be AA z hz hR (d : Int) (by omega) (Or.inr (by have := hR.1; omega)) (by have := hR.1; omega) hjm⟩⟩
      · exact ⟨0, (bN z : Int), zN (zU z (bN z) (some d)) (bN z + 1), ⟨by decide, by decide⟩, ⟨bOK_D hz rfl (by omega) (fun u h => by cases h; exact hd), bDef_D hdf rfl⟩, fun rl ff v0 => ⟨_, ⟨rfl, rfl, Nat.le_of_ble_eq_true rfl, Nat.le_of_ble_eq_true rfl⟩, w_device1 l hl9 D g z0 ad z rl ff hz hj ao v0 hao (bN z) d hd rfl (by omega)⟩, fun cd dv vo ab be AA hR => ⟨_, (bN z : Int), ⟨rfl, rfl, Nat.le_of_ble_eq_true rfl, Nat.le_of_ble_eq_true rfl⟩, fun h9 => rfl, k_device1 l D g am cd dv vo ab be AA z hz hR hdf (bN z) d hd rfl (by omega) hjm⟩⟩
    · exact ⟨1, 0, z, ⟨by decide, by decide⟩, ⟨hz, hdf⟩, fun rl ff v0 => ⟨_, ⟨rfl, rfl, Nat.le_of_ble_eq_true rfl, Nat.le_of_ble_eq_true rfl⟩, w_device2 l hl9 D g z0 ad z rl ff hz hj ao v0 hao u h_u hu1 hd0⟩, fun cd dv vo ab be AA hR => ⟨_, 0, ⟨rfl, rfl, Nat.le_of_ble_eq_true rfl, Nat.le_of_ble_eq_true rfl⟩, fun h9 => absurd h9 (by decide), b_device1 l D g am cd dv vo ab be AA z hz hR u h_u (by have := hR.1; omega) hjm⟩⟩
set_option maxRecDepth 100000 in
theorem t_point (l : Launch) (hl9 : l.stackTraces = false) (D : va_G) (g : Nat → ClassId) (z0 : Nat) (ad am : Nat → Nat) (ao : Nat) (hj : bInj ad) (hjm : mInj am) (hao : ∀ q, q < 98 → ao ≠ ad q) (z : bSt) (hz : bOK z) (hdf : bDef z) (d pl le mo : Int) (h_d : -2147483648 ≤ d ∧ d < 2147483648) (h_pl : -2147483648 ≤ pl ∧ pl < 2147483648) (h_le : -2147483648 ≤ le ∧ le < 2147483648) (h_mo : -2147483648 ≤ mo ∧ mo < 2147483648) : tB l D g z0 ad am ao yL_point yX4_point wsL_point wsX4_point [.int (jI (d)), .int (jI (pl)), .int (jI (le)), .int (jI (mo))] z := by
  have hN8 := hz.1
  by_cases hd0 : 0 ≤ d ∧ d ≤ (bN z : Int) - 1
  · obtain ⟨d9, rfl⟩ : ∃ d9 : Nat, d = (d9 : Int) := ⟨d.toNat, by omega⟩
    have hd : d9 < bN z := by omega
    by_cases hg : (1 ≤ pl ∧ pl ≤ 5000) ∧ (0 ≤ mo ∧ mo ≤ 100000) ∧ (0 ≤ le ∧ le ≤ mo)
    · obtain ⟨g1, g2, g3⟩ := hg
      have f0 := (hz.2.2.1 d9 (by omega)).2.2.2.2.2 0 (by have := (hz.2.2.1 d9 (by omega)).1; omega)
      have fK : bK z d9 ≤ 6 := f0.1
      have fQ : ∀ i, i < bK z d9 → 1 ≤ bP z d9 i ∧ bP z d9 i ≤ 5000 := f0.2.1
      by_cases h2 : bK z d9 = 6 ∨ (0 < bK z d9 ∧ pl ≤ bP z d9 (bK z d9 - 1))
      · exact ⟨2, 0, z, ⟨by decide, by decide⟩, ⟨hz, hdf⟩, fun rl ff v0 => ⟨_, ⟨rfl, rfl, Nat.le_of_ble_eq_true rfl, Nat.le_of_ble_eq_true rfl⟩, w_point3 l hl9 D g z0 ad z rl ff hz hj ao v0 hao d9 (bK z d9) pl le mo hd rfl g1 g3 (by omega) h2⟩, fun cd dv vo ab be AA hR => ⟨_, 0, ⟨rfl, rfl, Nat.le_of_ble_eq_true rfl, Nat.le_of_ble_eq_true rfl⟩, fun h9 => absurd h9 (by decide), b_point2 l D g am cd dv vo ab be AA z hz hR d9 (bK z d9) pl le mo hd rfl g1 g3 (by omega) h2 hjm⟩⟩
      · have hl : bK z d9 = 0 ∨ (bP z d9 (bK z d9 - 1) < pl ∧ 1 ≤ bP z d9 (bK z d9 - 1)) := by
          by_cases h0 : bK z d9 = 0
          · exact Or.inl h0
          · have := fQ (bK z d9 - 1) (by omega)
            exact Or.inr ⟨by omega, this.1⟩
        exact ⟨0, ((bK z d9 + 1 : Nat) : Int), zK (zM (zL (zP z d9 (bK z d9) pl) d9 (bK z d9) le) d9 (bK z d9) mo) d9 (bK z d9 + 1), ⟨by decide, by decide⟩, ⟨bOK_P hz rfl (by omega) g1 g3 (by omega) hl, bDef_P hdf hd⟩, fun rl ff v0 => ⟨_, ⟨rfl, rfl, Nat.le_of_ble_eq_true rfl, Nat.le_of_ble_eq_true rfl⟩, w_point0 l hl9 D g z0 ad z rl ff hz hj ao v0 hao d9 (bK z d9) pl le mo hd rfl (by omega) g1 g3 (by omega) hl⟩, fun cd dv vo ab be AA hR => ⟨_, ((bK z d9 + 1 : Nat) : Int), ⟨rfl, rfl, Nat.le_of_ble_eq_true rfl, Nat.le_of_ble_eq_true rfl⟩, fun h9 => rfl, k_point l D g am cd dv vo ab be AA z hz hR d9 (bK z d9) pl le mo hd rfl (by omega) g1 g3 (by omega) hl hjm⟩⟩
    · exact ⟨1, 0, z, ⟨by decide, by decide⟩, ⟨hz, hdf⟩, fun rl ff v0 => ⟨_, ⟨rfl, rfl, Nat.le_of_ble_eq_true rfl, Nat.le_of_ble_eq_true rfl⟩, w_point2 l hl9 D g z0 ad z rl ff hz hj ao v0 hao d9 pl le mo hd h_pl h_le h_mo hg⟩, fun cd dv vo ab be AA hR => ⟨_, 0, ⟨rfl, rfl, Nat.le_of_ble_eq_true rfl, Nat.le_of_ble_eq_true rfl⟩, fun h9 => absurd h9 (by decide), b_point1 l D g am cd dv vo ab be AA z hz hR (d9 : Int) pl le mo h_d h_pl h_le h_mo (by have := hR.1; omega) hjm⟩⟩
  · exact ⟨1, 0, z, ⟨by decide, by decide⟩, ⟨hz, hdf⟩, fun rl ff v0 => ⟨_, ⟨rfl, rfl, Nat.le_of_ble_eq_true rfl, Nat.le_of_ble_eq_true rfl⟩, w_point1 l hl9 D g z0 ad z rl ff hz hj ao v0 hao d pl le mo h_d hd0⟩, fun cd dv vo ab be AA hR => ⟨_, 0, ⟨rfl, rfl, Nat.le_of_ble_eq_true rfl, Nat.le_of_ble_eq_true rfl⟩, fun h9 => absurd h9 (by decide), b_point1 l D g am cd dv vo ab be AA z hz hR d pl le mo h_d h_pl h_le h_mo (by have := hR.1; omega) hjm⟩⟩
set_option maxRecDepth 100000 in
theorem t_option (l : Launch) (hl9 : l.stackTraces = false) (D : va_G) (g : Nat → ClassId) (z0 : Nat) (ad am : Nat → Nat) (ao : Nat) (hj : bInj ad) (hjm : mInj am) (hao : ∀ q, q < 98 → ao ≠ ad q) (z : bSt) (hz : bOK z) (hdf : bDef z) (d sc de : Int) (h_d : -2147483648 ≤ d ∧ d < 2147483648) (h_sc : -2147483648 ≤ sc ∧ sc < 2147483648) (h_de : -2147483648 ≤ de ∧ de < 2147483648) : tB l D g z0 ad am ao yL_option yX4_option wsL_option wsX4_option [.int (jI (d)), .int (jI (sc)), .int (jI (de))] z := by
  have hN8 := hz.1
  by_cases hd0 : 0 ≤ d ∧ d ≤ (bN z : Int) - 1
  · obtain ⟨d9, rfl⟩ : ∃ d9 : Nat, d = (d9 : Int) := ⟨d.toNat, by omega⟩
    have hd : d9 < bN z := by omega
    by_cases hg : (10 ≤ sc ∧ sc ≤ 1000) ∧ (0 ≤ de ∧ de ≤ 10000)
    · have fO := (hz.2.2.1 d9 (by omega)).2.1
      by_cases h4 : bO z d9 = 4
      · exact ⟨2, 0, z, ⟨by decide, by decide⟩, ⟨hz, hdf⟩, fun rl ff v0 => ⟨_, ⟨rfl, rfl, Nat.le_of_ble_eq_true rfl, Nat.le_of_ble_eq_true rfl⟩, w_option3 l hl9 D g z0 ad z rl ff hz hj ao v0 hao d9 sc de hd h4 hg.1 hg.2⟩, fun cd dv vo ab be AA hR => ⟨_, 0, ⟨rfl, rfl, Nat.le_of_ble_eq_true rfl, Nat.le_of_ble_eq_true rfl⟩, fun h9 => absurd h9 (by decide), b_option2 l D g am cd dv vo ab be AA z hz hR d9 sc de hd h4 hg.1 hg.2 hjm⟩⟩
      · exact ⟨0, (bO z d9 : Int), zO (zD (zS z d9 (bO z d9) sc) d9 (bO z d9) de) d9 (bO z d9 + 1), ⟨by decide, by decide⟩, ⟨bOK_O hz (by omega) rfl (by omega) hg.1 hg.2, bDef_O hdf hd⟩, fun rl ff v0 => ⟨_, ⟨rfl, rfl, Nat.le_of_ble_eq_true rfl, Nat.le_of_ble_eq_true rfl⟩, w_option0 l hl9 D g z0 ad z rl ff hz hj ao v0 hao d9 (bO z d9) sc de hd rfl (by omega) hg.1 hg.2⟩, fun cd dv vo ab be AA hR => ⟨_, (bO z d9 : Int), ⟨rfl, rfl, Nat.le_of_ble_eq_true rfl, Nat.le_of_ble_eq_true rfl⟩, fun h9 => rfl, k_option l D g am cd dv vo ab be AA z hz hR d9 (bO z d9) sc de hd rfl (by omega) hg.1 hg.2 hjm⟩⟩
    · exact ⟨1, 0, z, ⟨by decide, by decide⟩, ⟨hz, hdf⟩, fun rl ff v0 => ⟨_, ⟨rfl, rfl, Nat.le_of_ble_eq_true rfl, Nat.le_of_ble_eq_true rfl⟩, w_option2 l hl9 D g z0 ad z rl ff hz hj ao v0 hao d9 sc de hd h_sc h_de hg⟩, fun cd dv vo ab be AA hR => ⟨_, 0, ⟨rfl, rfl, Nat.le_of_ble_eq_true rfl, Nat.le_of_ble_eq_true rfl⟩, fun h9 => absurd h9 (by decide), b_option1 l D g am cd dv vo ab be AA z hz hR (d9 : Int) sc de h_d h_sc h_de (by have := hR.1; omega) hjm⟩⟩
  · exact ⟨1, 0, z, ⟨by decide, by decide⟩, ⟨hz, hdf⟩, fun rl ff v0 => ⟨_, ⟨rfl, rfl, Nat.le_of_ble_eq_true rfl, Nat.le_of_ble_eq_true rfl⟩, w_option1 l hl9 D g z0 ad z rl ff hz hj ao v0 hao d sc de h_d hd0⟩, fun cd dv vo ab be AA hR => ⟨_, 0, ⟨rfl, rfl, Nat.le_of_ble_eq_true rfl, Nat.le_of_ble_eq_true rfl⟩, fun h9 => absurd h9 (by decide), b_option1 l D g am cd dv vo ab be AA z hz hR d sc de h_d h_sc h_de (by have := hR.1; omega) hjm⟩⟩
set_option maxRecDepth 100000 in
theorem t_choose (l : Launch) (hl9 : l.stackTraces = false) (D : va_G) (g : Nat → ClassId) (z0 : Nat) (ad am : Nat → Nat) (ao : Nat) (hj : bInj ad) (hjm : mInj am) (hao : ∀ q, q < 98 → ao ≠ ad q) (z : bSt) (hz : bOK z) (hdf : bDef z) (d o : Int) (h_d : -2147483648 ≤ d ∧ d < 2147483648) (h_o : -2147483648 ≤ o ∧ o < 2147483648) : tB l D g z0 ad am ao yL_choose yX4_choose wsL_choose wsX4_choose [.int (jI (d)), .int (jI (o))] z := by
  have hN8 := hz.1
  by_cases hd0 : 0 ≤ d ∧ d ≤ (bN z : Int) - 1
  · obtain ⟨d9, rfl⟩ : ∃ d9 : Nat, d = (d9 : Int) := ⟨d.toNat, by omega⟩
    have hd : d9 < bN z := by omega
    by_cases hg : 0 ≤ o ∧ o ≤ (bO z d9 : Int) - 1
    · obtain ⟨o9, rfl⟩ : ∃ o9 : Nat, o = (o9 : Int) := ⟨o.toNat, by omega⟩
      have ho : o9 < bO z d9 := by omega
      exact ⟨0, (bC z d9 : Int), zC z d9 o9, ⟨by decide, by decide⟩, ⟨bOK_C hz ho, bDef_C hdf hd⟩, fun rl ff v0 => ⟨_, ⟨rfl, rfl, Nat.le_of_ble_eq_true rfl, Nat.le_of_ble_eq_true rfl⟩, w_choose0 l hl9 D g z0 ad z rl ff hz hj ao v0 hao d9 o9 hd ho⟩, fun cd dv vo ab be AA hR => ⟨_, (bC z d9 : Int), ⟨rfl, rfl, Nat.le_of_ble_eq_true rfl, Nat.le_of_ble_eq_true rfl⟩, fun h9 => rfl, k_choose l D g am cd dv vo ab be AA z hz hR d9 o9 hd ho hjm⟩⟩
    · exact ⟨1, 0, z, ⟨by decide, by decide⟩, ⟨hz, hdf⟩, fun rl ff v0 => ⟨_, ⟨rfl, rfl, Nat.le_of_ble_eq_true rfl, Nat.le_of_ble_eq_true rfl⟩, w_choose2 l hl9 D g z0 ad z rl ff hz hj ao v0 hao d9 o hd h_o hg⟩, fun cd dv vo ab be AA hR => ⟨_, 0, ⟨rfl, rfl, Nat.le_of_ble_eq_true rfl, Nat.le_of_ble_eq_true rfl⟩, fun h9 => absurd h9 (by decide), b_choose2 l D g am cd dv vo ab be AA z hz hR d9 o hd h_o hg hjm⟩⟩
  · exact ⟨1, 0, z, ⟨by decide, by decide⟩, ⟨hz, hdf⟩, fun rl ff v0 => ⟨_, ⟨rfl, rfl, Nat.le_of_ble_eq_true rfl, Nat.le_of_ble_eq_true rfl⟩, w_choose1 l hl9 D g z0 ad z rl ff hz hj ao v0 hao d o h_d hd0⟩, fun cd dv vo ab be AA hR => ⟨_, 0, ⟨rfl, rfl, Nat.le_of_ble_eq_true rfl, Nat.le_of_ble_eq_true rfl⟩, fun h9 => absurd h9 (by decide), b_choose1 l D g am cd dv vo ab be AA z hz hR d o h_d h_o (by have := hR.1; omega) hjm⟩⟩
set_option maxRecDepth 100000 in
theorem t_time (l : Launch) (hl9 : l.stackTraces = false) (D : va_G) (g : Nat → ClassId) (z0 : Nat) (ad am : Nat → Nat) (ao : Nat) (hj : bInj ad) (hjm : mInj am) (hao : ∀ q, q < 98 → ao ≠ ad q) (z : bSt) (hz : bOK z) (hdf : bDef z) (d i : Int) (mo : Bool) (h_d : -2147483648 ≤ d ∧ d < 2147483648) (h_i : -2147483648 ≤ i ∧ i < 2147483648) : tB l D g z0 ad am ao yL_time yX4_time wsL_time wsX4_time [.int (jI (d)), .int (jI (i)), .int (jI (bI mo))] z := by
  have hN8 := hz.1
  by_cases hd0 : 0 ≤ d ∧ d ≤ (bN z : Int) - 1
  · obtain ⟨d9, rfl⟩ : ∃ d9 : Nat, d = (d9 : Int) := ⟨d.toNat, by omega⟩
    have hd : d9 < bN z := by omega
    by_cases hg : 1 ≤ i ∧ i ≤ 5000
    · exact ⟨0, (if cPiece (bCh z d9) i = -1 then -1 else cWhole (bCh z d9) (cPiece (bCh z d9) i) i mo), z, ⟨by decide, by decide⟩, ⟨hz, hdf⟩, fun rl ff v0 => ⟨_, ⟨rfl, rfl, Nat.le_of_ble_eq_true rfl, Nat.le_of_ble_eq_true rfl⟩, w_time0 l hl9 D g z0 ad z rl ff hz hj ao v0 hao d9 i mo hd hg⟩, fun cd dv vo ab be AA hR => ⟨_, (if cPiece (bCh z d9) i = -1 then -1 else cWhole (bCh z d9) (cPiece (bCh z d9) i) i mo), ⟨rfl, rfl, Nat.le_of_ble_eq_true rfl, Nat.le_of_ble_eq_true rfl⟩, fun h9 => rfl, k_time l D g am cd dv vo ab be AA z hz hR d9 i mo hd hg hjm⟩⟩
    · exact ⟨1, 0, z, ⟨by decide, by decide⟩, ⟨hz, hdf⟩, fun rl ff v0 => ⟨_, ⟨rfl, rfl, Nat.le_of_ble_eq_true rfl, Nat.le_of_ble_eq_true rfl⟩, w_time2 l hl9 D g z0 ad z rl ff hz hj ao v0 hao d9 i mo hd h_i hg⟩, fun cd dv vo ab be AA hR => ⟨_, (-1), ⟨rfl, rfl, Nat.le_of_ble_eq_true rfl, Nat.le_of_ble_eq_true rfl⟩, fun h9 => absurd h9 (by decide), b_time l D g am cd dv vo ab be AA z hz hR (d9 : Int) i mo h_d h_i (by have := hR.1; omega) hjm⟩⟩
  · exact ⟨1, 0, z, ⟨by decide, by decide⟩, ⟨hz, hdf⟩, fun rl ff v0 => ⟨_, ⟨rfl, rfl, Nat.le_of_ble_eq_true rfl, Nat.le_of_ble_eq_true rfl⟩, w_time1 l hl9 D g z0 ad z rl ff hz hj ao v0 hao d i mo h_d hd0⟩, fun cd dv vo ab be AA hR => ⟨_, (-1), ⟨rfl, rfl, Nat.le_of_ble_eq_true rfl, Nat.le_of_ble_eq_true rfl⟩, fun h9 => absurd h9 (by decide), b_time l D g am cd dv vo ab be AA z hz hR d i mo h_d h_i (by have := hR.1; omega) hjm⟩⟩
set_option maxRecDepth 100000 in
theorem t_opensFrom (l : Launch) (hl9 : l.stackTraces = false) (D : va_G) (g : Nat → ClassId) (z0 : Nat) (ad am : Nat → Nat) (ao : Nat) (hj : bInj ad) (hjm : mInj am) (hao : ∀ q, q < 98 → ao ≠ ad q) (z : bSt) (hz : bOK z) (hdf : bDef z) (d : Int) (h_d : -2147483648 ≤ d ∧ d < 2147483648) : tB l D g z0 ad am ao yL_opensFrom yX4_opensFrom wsL_opensFrom wsX4_opensFrom [.int (jI (d))] z := by
  have hN8 := hz.1
  by_cases hd0 : 0 ≤ d ∧ d ≤ (bN z : Int) - 1
  · obtain ⟨d9, rfl⟩ : ∃ d9 : Nat, d = (d9 : Int) := ⟨d.toNat, by omega⟩
    have hd : d9 < bN z := by omega
    exact ⟨0, (if 5000 < cStart (bCh z d9) 0 then -1 else cStart (bCh z d9) 0), z, ⟨by decide, by decide⟩, ⟨hz, hdf⟩, fun rl ff v0 => ⟨_, ⟨rfl, rfl, Nat.le_of_ble_eq_true rfl, Nat.le_of_ble_eq_true rfl⟩, w_opensFrom0 l hl9 D g z0 ad z rl ff hz hj ao v0 hao d9 hd⟩, fun cd dv vo ab be AA hR => ⟨_, (dF (mOpen (bCh z d9)) 5000 1), ⟨rfl, rfl, Nat.le_of_ble_eq_true rfl, Nat.le_of_ble_eq_true rfl⟩, fun h9 => (of_same (bCh_ok hz hd)).symm, k_opensFrom l D g am cd dv vo ab be AA z hz hR d9 hd hjm⟩⟩
  · exact ⟨1, 0, z, ⟨by decide, by decide⟩, ⟨hz, hdf⟩, fun rl ff v0 => ⟨_, ⟨rfl, rfl, Nat.le_of_ble_eq_true rfl, Nat.le_of_ble_eq_true rfl⟩, w_opensFrom1 l hl9 D g z0 ad z rl ff hz hj ao v0 hao d h_d hd0⟩, fun cd dv vo ab be AA hR => ⟨_, (-1), ⟨rfl, rfl, Nat.le_of_ble_eq_true rfl, Nat.le_of_ble_eq_true rfl⟩, fun h9 => absurd h9 (by decide), b_opensFrom l D g am cd dv vo ab be AA z hz hR d h_d (by have := hR.1; omega) hjm⟩⟩
set_option maxRecDepth 100000 in
theorem t_order (l : Launch) (hl9 : l.stackTraces = false) (D : va_G) (g : Nat → ClassId) (z0 : Nat) (ad am : Nat → Nat) (ao : Nat) (hj : bInj ad) (hjm : mInj am) (hao : ∀ q, q < 98 → ao ≠ ad q) (z : bSt) (hz : bOK z) (hdf : bDef z) (d u mg : Int) (h_d : -2147483648 ≤ d ∧ d < 2147483648) (h_u : -2147483648 ≤ u ∧ u < 2147483648) (h_mg : -2147483648 ≤ mg ∧ mg < 2147483648) : tB l D g z0 ad am ao yL_order yX4_order wsL_order wsX4_order [.int (jI (d)), .int (jI (u)), .int (jI (mg))] z := by
  have hN8 := hz.1
  by_cases hp : d ≠ u ∧ (0 ≤ mg ∧ mg ≤ 10000)
  · by_cases hd0 : 0 ≤ d ∧ d ≤ (bN z : Int) - 1
    · obtain ⟨d9, rfl⟩ : ∃ d9 : Nat, d = (d9 : Int) := ⟨d.toNat, by omega⟩
      have hd : d9 < bN z := by omega
      by_cases hu0 : 0 ≤ u ∧ u ≤ (bN z : Int) - 1
      · obtain ⟨u9, rfl⟩ : ∃ u9 : Nat, u = (u9 : Int) := ⟨u.toNat, by omega⟩
        have hu : u9 < bN z := by omega
        exact ⟨0, (cFb (cBrk (bCh z d9) (bCh z u9) mg) (cEnd (bCh z d9) (bCh z u9))), z, ⟨by decide, by decide⟩, ⟨hz, hdf⟩, fun rl ff v0 => ⟨_, ⟨rfl, rfl, Nat.le_of_ble_eq_true rfl, Nat.le_of_ble_eq_true rfl⟩, w_order0 l hl9 D g z0 ad z rl ff hz hj ao v0 hao d9 u9 mg hd hu (by omega) hp.2⟩, fun cd dv vo ab be AA hR => ⟨_, (dF (cBrk (bCh z d9) (bCh z u9) mg) 5000 1), ⟨rfl, rfl, Nat.le_of_ble_eq_true rfl, Nat.le_of_ble_eq_true rfl⟩, fun h9 => (cFb_all (bCh_ok hz hd) (bCh_ok hz hu) mg).symm, k_order l D g am cd dv vo ab be AA z hz hR d9 u9 mg hd hu (by omega) hp.2 hjm⟩⟩
      · exact ⟨1, 0, z, ⟨by decide, by decide⟩, ⟨hz, hdf⟩, fun rl ff v0 => ⟨_, ⟨rfl, rfl, Nat.le_of_ble_eq_true rfl, Nat.le_of_ble_eq_true rfl⟩, w_order3 l hl9 D g z0 ad z rl ff hz hj ao v0 hao d9 u mg hd h_u hp.1 hp.2 hu0⟩, fun cd dv vo ab be AA hR => ⟨_, (-1), ⟨rfl, rfl, Nat.le_of_ble_eq_true rfl, Nat.le_of_ble_eq_true rfl⟩, fun h9 => absurd h9 (by decide), b_order l D g am cd dv vo ab be AA z hz hR (d9 : Int) u mg h_d h_u h_mg (by have := hR.1; omega) hjm⟩⟩
    · exact ⟨1, 0, z, ⟨by decide, by decide⟩, ⟨hz, hdf⟩, fun rl ff v0 => ⟨_, ⟨rfl, rfl, Nat.le_of_ble_eq_true rfl, Nat.le_of_ble_eq_true rfl⟩, w_order2 l hl9 D g z0 ad z rl ff hz hj ao v0 hao d u mg h_d h_u hp.1 hp.2 hd0⟩, fun cd dv vo ab be AA hR => ⟨_, (-1), ⟨rfl, rfl, Nat.le_of_ble_eq_true rfl, Nat.le_of_ble_eq_true rfl⟩, fun h9 => absurd h9 (by decide), b_order l D g am cd dv vo ab be AA z hz hR d u mg h_d h_u h_mg (by have := hR.1; omega) hjm⟩⟩
  · exact ⟨1, 0, z, ⟨by decide, by decide⟩, ⟨hz, hdf⟩, fun rl ff v0 => ⟨_, ⟨rfl, rfl, Nat.le_of_ble_eq_true rfl, Nat.le_of_ble_eq_true rfl⟩, w_order1 l hl9 D g z0 ad z rl ff hz hj ao v0 hao d u mg h_d h_u h_mg hp⟩, fun cd dv vo ab be AA hR => ⟨_, (-1), ⟨rfl, rfl, Nat.le_of_ble_eq_true rfl, Nat.le_of_ble_eq_true rfl⟩, fun h9 => absurd h9 (by decide), b_order l D g am cd dv vo ab be AA z hz hR d u mg h_d h_u h_mg (by have := hR.1; omega) hjm⟩⟩
set_option maxRecDepth 100000 in
theorem t_broken (l : Launch) (hl9 : l.stackTraces = false) (D : va_G) (g : Nat → ClassId) (z0 : Nat) (ad am : Nat → Nat) (ao : Nat) (hj : bInj ad) (hjm : mInj am) (hao : ∀ q, q < 98 → ao ≠ ad q) (z : bSt) (hz : bOK z) (hdf : bDef z) (d u mg : Int) (h_d : -2147483648 ≤ d ∧ d < 2147483648) (h_u : -2147483648 ≤ u ∧ u < 2147483648) (h_mg : -2147483648 ≤ mg ∧ mg < 2147483648) : tB l D g z0 ad am ao yL_broken yX4_broken wsL_broken wsX4_broken [.int (jI (d)), .int (jI (u)), .int (jI (mg))] z := by
  have hN8 := hz.1
  by_cases hp : d ≠ u ∧ (0 ≤ mg ∧ mg ≤ 10000)
  · by_cases hd0 : 0 ≤ d ∧ d ≤ (bN z : Int) - 1
    · obtain ⟨d9, rfl⟩ : ∃ d9 : Nat, d = (d9 : Int) := ⟨d.toNat, by omega⟩
      have hd : d9 < bN z := by omega
      by_cases hu0 : 0 ≤ u ∧ u ≤ (bN z : Int) - 1
      · obtain ⟨u9, rfl⟩ : ∃ u9 : Nat, u = (u9 : Int) := ⟨u.toNat, by omega⟩
        have hu : u9 < bN z := by omega
        exact ⟨0, (cCnt (cBrk (bCh z d9) (bCh z u9) mg) (cEnd (bCh z d9) (bCh z u9)) 13 1 0), z, ⟨by decide, by decide⟩, ⟨hz, hdf⟩, fun rl ff v0 => ⟨_, ⟨rfl, rfl, Nat.le_of_ble_eq_true rfl, Nat.le_of_ble_eq_true rfl⟩, w_broken0 l hl9 D g z0 ad z rl ff hz hj ao v0 hao d9 u9 mg hd hu (by omega) hp.2⟩, fun cd dv vo ab be AA hR => ⟨_, (dC (cBrk (bCh z d9) (bCh z u9) mg) 5000 1), ⟨rfl, rfl, Nat.le_of_ble_eq_true rfl, Nat.le_of_ble_eq_true rfl⟩, fun h9 => (cCnt_all (bCh_ok hz hd) (bCh_ok hz hu) mg).symm, k_broken l D g am cd dv vo ab be AA z hz hR d9 u9 mg hd hu (by omega) hp.2 hjm⟩⟩
      · exact ⟨1, 0, z, ⟨by decide, by decide⟩, ⟨hz, hdf⟩, fun rl ff v0 => ⟨_, ⟨rfl, rfl, Nat.le_of_ble_eq_true rfl, Nat.le_of_ble_eq_true rfl⟩, w_broken3 l hl9 D g z0 ad z rl ff hz hj ao v0 hao d9 u mg hd h_u hp.1 hp.2 hu0⟩, fun cd dv vo ab be AA hR => ⟨_, 0, ⟨rfl, rfl, Nat.le_of_ble_eq_true rfl, Nat.le_of_ble_eq_true rfl⟩, fun h9 => absurd h9 (by decide), b_broken l D g am cd dv vo ab be AA z hz hR (d9 : Int) u mg h_d h_u h_mg (by have := hR.1; omega) hjm⟩⟩
    · exact ⟨1, 0, z, ⟨by decide, by decide⟩, ⟨hz, hdf⟩, fun rl ff v0 => ⟨_, ⟨rfl, rfl, Nat.le_of_ble_eq_true rfl, Nat.le_of_ble_eq_true rfl⟩, w_broken2 l hl9 D g z0 ad z rl ff hz hj ao v0 hao d u mg h_d h_u hp.1 hp.2 hd0⟩, fun cd dv vo ab be AA hR => ⟨_, 0, ⟨rfl, rfl, Nat.le_of_ble_eq_true rfl, Nat.le_of_ble_eq_true rfl⟩, fun h9 => absurd h9 (by decide), b_broken l D g am cd dv vo ab be AA z hz hR d u mg h_d h_u h_mg (by have := hR.1; omega) hjm⟩⟩
  · exact ⟨1, 0, z, ⟨by decide, by decide⟩, ⟨hz, hdf⟩, fun rl ff v0 => ⟨_, ⟨rfl, rfl, Nat.le_of_ble_eq_true rfl, Nat.le_of_ble_eq_true rfl⟩, w_broken1 l hl9 D g z0 ad z rl ff hz hj ao v0 hao d u mg h_d h_u h_mg hp⟩, fun cd dv vo ab be AA hR => ⟨_, 0, ⟨rfl, rfl, Nat.le_of_ble_eq_true rfl, Nat.le_of_ble_eq_true rfl⟩, fun h9 => absurd h9 (by decide), b_broken l D g am cd dv vo ab be AA z hz hR d u mg h_d h_u h_mg (by have := hR.1; omega) hjm⟩⟩
set_option maxRecDepth 100000 in
theorem t_settle (l : Launch) (hl9 : l.stackTraces = false) (D : va_G) (g : Nat → ClassId) (z0 : Nat) (ad am : Nat → Nat) (ao : Nat) (hj : bInj ad) (hjm : mInj am) (hao : ∀ q, q < 98 → ao ≠ ad q) (z : bSt) (hz : bOK z) (hdf : bDef z) (mg : Int) (h_mg : -2147483648 ≤ mg ∧ mg < 2147483648) : tBz l D g z0 ad am ao yL_settle yX4_settle wsL_settle wsX4_settle [.int (jI (mg))] z := by
  have hN8 := hz.1
  by_cases hg : 0 ≤ mg ∧ mg ≤ 10000
  · rcases cPick_first (bN z) (bU z) (bO z) (okf z mg) hz.2.2.2 (fun i hi => (hz.2.2.1 i (by omega)).1) with ⟨hE, hno⟩ | ⟨hA, hF, hp0, hpk⟩
    · exact ⟨0, (bI false), z, Or.inl rfl, ⟨by decide, by decide⟩, ⟨hz, hdf⟩, fun rl ff v0 => ⟨_, ⟨rfl, rfl, Nat.le_of_ble_eq_true rfl, Nat.le_of_ble_eq_true rfl⟩, w_settle0 l hl9 D g z0 ad z rl ff hz hj ao v0 hao mg hg hE⟩, fun cd dv vo ab be AA hR => ⟨_, (bI false), ⟨rfl, rfl, Nat.le_of_ble_eq_true rfl, Nat.le_of_ble_eq_true rfl⟩, fun h9 => rfl, k_settle0 l D g am cd dv vo ab be AA z hz hR mg hg hno hjm⟩⟩
    · generalize cPick (bN z) (bU z) (bO z) (okf z mg) (bN z + 1) = pk at hF hp0 hpk
      have hpo : ∀ i, i < bN z → pk i < bO z i := fun i hi => (hF.1 i hi).1
      exact ⟨0, (bI true), zCs z (bN z) pk, Or.inr rfl, ⟨by decide, by decide⟩, ⟨bOK_Cs hz hpo, bDef_Cs hdf⟩, fun rl ff v0 => ⟨_, ⟨rfl, rfl, Nat.le_of_ble_eq_true rfl, Nat.le_of_ble_eq_true rfl⟩, w_settle1 l hl9 D g z0 ad z rl ff hz hj ao v0 hao mg hg hA pk hp0 hpk hpo⟩, fun cd dv vo ab be AA hR => ⟨_, (bI true), ⟨rfl, rfl, Nat.le_of_ble_eq_true rfl, Nat.le_of_ble_eq_true rfl⟩, fun h9 => rfl, k_settle1 l D g am cd dv vo ab be AA z hz hR mg hg pk hF hjm⟩⟩
  · exact ⟨1, 0, z, Or.inl rfl, ⟨by decide, by decide⟩, ⟨hz, hdf⟩, fun rl ff v0 => ⟨_, ⟨rfl, rfl, Nat.le_of_ble_eq_true rfl, Nat.le_of_ble_eq_true rfl⟩, w_settle2 l hl9 D g z0 ad z rl ff hz hj ao v0 hao mg h_mg hg⟩, fun cd dv vo ab be AA hR => ⟨_, (bI false), ⟨rfl, rfl, Nat.le_of_ble_eq_true rfl, Nat.le_of_ble_eq_true rfl⟩, fun h9 => absurd h9 (by decide), b_settle l D g am cd dv vo ab be AA z hz hR mg h_mg hg hjm⟩⟩
set_option maxRecDepth 100000 in
theorem t_chosen (l : Launch) (hl9 : l.stackTraces = false) (D : va_G) (g : Nat → ClassId) (z0 : Nat) (ad am : Nat → Nat) (ao : Nat) (hj : bInj ad) (hjm : mInj am) (hao : ∀ q, q < 98 → ao ≠ ad q) (z : bSt) (hz : bOK z) (hdf : bDef z) (d : Int) (h_d : -2147483648 ≤ d ∧ d < 2147483648) : tB l D g z0 ad am ao yL_chosen yX4_chosen wsL_chosen wsX4_chosen [.int (jI (d))] z := by
  have hN8 := hz.1
  by_cases hd0 : 0 ≤ d ∧ d ≤ (bN z : Int) - 1
  · obtain ⟨d9, rfl⟩ : ∃ d9 : Nat, d = (d9 : Int) := ⟨d.toNat, by omega⟩
    have hd : d9 < bN z := by omega
    exact ⟨0, (bC z d9 : Int), z, ⟨by decide, by decide⟩, ⟨hz, hdf⟩, fun rl ff v0 => ⟨_, ⟨rfl, rfl, Nat.le_of_ble_eq_true rfl, Nat.le_of_ble_eq_true rfl⟩, w_chosen0 l hl9 D g z0 ad z rl ff hz hj ao v0 hao d9 hd⟩, fun cd dv vo ab be AA hR => ⟨_, (bC z d9 : Int), ⟨rfl, rfl, Nat.le_of_ble_eq_true rfl, Nat.le_of_ble_eq_true rfl⟩, fun h9 => rfl, k_chosen l D g am cd dv vo ab be AA z hz hR d9 hd hjm⟩⟩
  · exact ⟨1, 0, z, ⟨by decide, by decide⟩, ⟨hz, hdf⟩, fun rl ff v0 => ⟨_, ⟨rfl, rfl, Nat.le_of_ble_eq_true rfl, Nat.le_of_ble_eq_true rfl⟩, w_chosen1 l hl9 D g z0 ad z rl ff hz hj ao v0 hao d h_d hd0⟩, fun cd dv vo ab be AA hR => ⟨_, 0, ⟨rfl, rfl, Nat.le_of_ble_eq_true rfl, Nat.le_of_ble_eq_true rfl⟩, fun h9 => absurd h9 (by decide), b_chosen l D g am cd dv vo ab be AA z hz hR d h_d (by have := hR.1; omega) hjm⟩⟩
set_option maxRecDepth 100000 in
theorem t_impedance (l : Launch) (hl9 : l.stackTraces = false) (D : va_G) (g : Nat → ClassId) (z0 : Nat) (ad am : Nat → Nat) (ao : Nat) (hj : bInj ad) (hjm : mInj am) (hao : ∀ q, q < 98 → ao ≠ ad q) (z : bSt) (hz : bOK z) (hdf : bDef z) (d i : Int) (h_d : -2147483648 ≤ d ∧ d < 2147483648) (h_i : -2147483648 ≤ i ∧ i < 2147483648) : tB l D g z0 ad am ao yL_impedance yX4_impedance wsL_impedance wsX4_impedance [.int (jI (d)), .int (jI (i))] z := by
  have hN8 := hz.1
  by_cases hd0 : 0 ≤ d ∧ d ≤ (bN z : Int) - 1
  · obtain ⟨d9, rfl⟩ : ∃ d9 : Nat, d = (d9 : Int) := ⟨d.toNat, by omega⟩
    have hd : d9 < bN z := by omega
    by_cases hg : 1 ≤ i ∧ i ≤ 10000
    · exact ⟨0, (bZ z d9), zZ z d9 i, ⟨by decide, by decide⟩, ⟨bOK_Z hz hg, bDef_Z hdf hd⟩, fun rl ff v0 => ⟨_, ⟨rfl, rfl, Nat.le_of_ble_eq_true rfl, Nat.le_of_ble_eq_true rfl⟩, w_impedance0 l hl9 D g z0 ad z rl ff hz hj ao v0 hao d9 i hd hg⟩, fun cd dv vo ab be AA hR => ⟨_, (bZ z d9), ⟨rfl, rfl, Nat.le_of_ble_eq_true rfl, Nat.le_of_ble_eq_true rfl⟩, fun h9 => rfl, k_impedance l D g am cd dv vo ab be AA z hz hR d9 i hd hg hjm⟩⟩
    · exact ⟨1, 0, z, ⟨by decide, by decide⟩, ⟨hz, hdf⟩, fun rl ff v0 => ⟨_, ⟨rfl, rfl, Nat.le_of_ble_eq_true rfl, Nat.le_of_ble_eq_true rfl⟩, w_impedance2 l hl9 D g z0 ad z rl ff hz hj ao v0 hao d9 i hd h_i hg⟩, fun cd dv vo ab be AA hR => ⟨_, 0, ⟨rfl, rfl, Nat.le_of_ble_eq_true rfl, Nat.le_of_ble_eq_true rfl⟩, fun h9 => absurd h9 (by decide), b_impedance l D g am cd dv vo ab be AA z hz hR (d9 : Int) i h_d h_i (by have := hR.1; omega) hjm⟩⟩
  · exact ⟨1, 0, z, ⟨by decide, by decide⟩, ⟨hz, hdf⟩, fun rl ff v0 => ⟨_, ⟨rfl, rfl, Nat.le_of_ble_eq_true rfl, Nat.le_of_ble_eq_true rfl⟩, w_impedance1 l hl9 D g z0 ad z rl ff hz hj ao v0 hao d i h_d hd0⟩, fun cd dv vo ab be AA hR => ⟨_, 0, ⟨rfl, rfl, Nat.le_of_ble_eq_true rfl, Nat.le_of_ble_eq_true rfl⟩, fun h9 => absurd h9 (by decide), b_impedance l D g am cd dv vo ab be AA z hz hR d i h_d h_i (by have := hR.1; omega) hjm⟩⟩
set_option maxRecDepth 100000 in
theorem t_voltage (l : Launch) (hl9 : l.stackTraces = false) (D : va_G) (g : Nat → ClassId) (z0 : Nat) (ad am : Nat → Nat) (ao : Nat) (hj : bInj ad) (hjm : mInj am) (hao : ∀ q, q < 98 → ao ≠ ad q) (z : bSt) (hz : bOK z) (hdf : bDef z) (i : Int) (h_i : -2147483648 ≤ i ∧ i < 2147483648) : tB l D g z0 ad am ao yL_voltage yX4_voltage wsL_voltage wsX4_voltage [.int (jI (i))] z := by
  by_cases hg : 0 ≤ i ∧ i ≤ 1000000
  · exact ⟨0, (bV z), zV z i, ⟨by decide, by decide⟩, ⟨bOK_V hz hg, bDef_V hdf⟩, fun rl ff v0 => ⟨_, ⟨rfl, rfl, Nat.le_of_ble_eq_true rfl, Nat.le_of_ble_eq_true rfl⟩, w_voltage0 l hl9 D g z0 ad z rl ff hz hj ao v0 hao i hg⟩, fun cd dv vo ab be AA hR => ⟨_, (bV z), ⟨rfl, rfl, Nat.le_of_ble_eq_true rfl, Nat.le_of_ble_eq_true rfl⟩, fun h9 => rfl, k_voltage l D g am cd dv vo ab be AA z hz hR i hg hjm⟩⟩
  · exact ⟨1, 0, z, ⟨by decide, by decide⟩, ⟨hz, hdf⟩, fun rl ff v0 => ⟨_, ⟨rfl, rfl, Nat.le_of_ble_eq_true rfl, Nat.le_of_ble_eq_true rfl⟩, w_voltage1 l hl9 D g z0 ad z rl ff hz hj ao v0 hao i h_i hg⟩, fun cd dv vo ab be AA hR => ⟨_, 0, ⟨rfl, rfl, Nat.le_of_ble_eq_true rfl, Nat.le_of_ble_eq_true rfl⟩, fun h9 => absurd h9 (by decide), b_voltage l D g am cd dv vo ab be AA z hz hR i h_i hg hjm⟩⟩
set_option maxRecDepth 100000 in
theorem t_shortAt (l : Launch) (hl9 : l.stackTraces = false) (D : va_G) (g : Nat → ClassId) (z0 : Nat) (ad am : Nat → Nat) (ao : Nat) (hj : bInj ad) (hjm : mInj am) (hao : ∀ q, q < 98 → ao ≠ ad q) (z : bSt) (hz : bOK z) (hdf : bDef z) (d : Int) (h_d : -2147483648 ≤ d ∧ d < 2147483648) : tB l D g z0 ad am ao yL_shortAt yX4_shortAt wsL_shortAt wsX4_shortAt [.int (jI (d))] z := by
  have hN8 := hz.1
  by_cases hd0 : 0 ≤ d ∧ d ≤ (bN z : Int) - 1
  · obtain ⟨d9, rfl⟩ : ∃ d9 : Nat, d = (d9 : Int) := ⟨d.toNat, by omega⟩
    have hd : d9 < bN z := by omega
    exact ⟨0, (bShort z d9), z, ⟨by decide, by decide⟩, ⟨hz, hdf⟩, fun rl ff v0 => ⟨_, ⟨rfl, rfl, Nat.le_of_ble_eq_true rfl, Nat.le_of_ble_eq_true rfl⟩, w_shortAt0 l hl9 D g z0 ad z rl ff hz hj ao v0 hao d9 hd⟩, fun cd dv vo ab be AA hR => ⟨_, (bShort z d9), ⟨rfl, rfl, Nat.le_of_ble_eq_true rfl, Nat.le_of_ble_eq_true rfl⟩, fun h9 => rfl, k_shortAt l D g am cd dv vo ab be AA z hz hR d9 hd hjm⟩⟩
  · exact ⟨1, 0, z, ⟨by decide, by decide⟩, ⟨hz, hdf⟩, fun rl ff v0 => ⟨_, ⟨rfl, rfl, Nat.le_of_ble_eq_true rfl, Nat.le_of_ble_eq_true rfl⟩, w_shortAt1 l hl9 D g z0 ad z rl ff hz hj ao v0 hao d h_d hd0⟩, fun cd dv vo ab be AA hR => ⟨_, 0, ⟨rfl, rfl, Nat.le_of_ble_eq_true rfl, Nat.le_of_ble_eq_true rfl⟩, fun h9 => absurd h9 (by decide), b_shortAt l D g am cd dv vo ab be AA z hz hR d h_d (by have := hR.1; omega) hjm⟩⟩
set_option maxRecDepth 100000 in
theorem t_opens (l : Launch) (hl9 : l.stackTraces = false) (D : va_G) (g : Nat → ClassId) (z0 : Nat) (ad am : Nat → Nat) (ao : Nat) (hj : bInj ad) (hjm : mInj am) (hao : ∀ q, q < 98 → ao ≠ ad q) (z : bSt) (hz : bOK z) (hdf : bDef z) (d i : Int) (h_d : -2147483648 ≤ d ∧ d < 2147483648) (h_i : -2147483648 ≤ i ∧ i < 2147483648) : tB l D g z0 ad am ao yL_opens yX4_opens wsL_opens wsX4_opens [.int (jI (d)), .int (jI (i))] z := by
  have hN8 := hz.1
  by_cases hd0 : 0 ≤ d ∧ d ≤ (bN z : Int) - 1
  · obtain ⟨d9, rfl⟩ : ∃ d9 : Nat, d = (d9 : Int) := ⟨d.toNat, by omega⟩
    have hd : d9 < bN z := by omega
    by_cases hg : 0 ≤ i
    · exact ⟨0, (if cPiece (bCh z (bQk z (bShort z d9) 9 (bU z d9) d9)) (bShort z d9) = -1 then -1 else bOp z (bShort z d9) (bQk z (bShort z d9) 9 (bU z d9) d9) 9 (some d9) i), z, ⟨by decide, by decide⟩, ⟨hz, hdf⟩, fun rl ff v0 => ⟨_, ⟨rfl, rfl, Nat.le_of_ble_eq_true rfl, Nat.le_of_ble_eq_true rfl⟩, w_opens0 l hl9 D g z0 ad z rl ff hz hj ao v0 hao d9 i hd ⟨hg, h_i.2⟩⟩, fun cd dv vo ab be AA hR => ⟨_, (mOp z (bShort z d9) d9 i 9 (some d9) 0), ⟨rfl, rfl, Nat.le_of_ble_eq_true rfl, Nat.le_of_ble_eq_true rfl⟩, fun h9 => (op_same hz hd (bShort z d9) i).symm, k_opens l D g am cd dv vo ab be AA z hz hR d9 i hd ⟨hg, h_i.2⟩ hjm⟩⟩
    · exact ⟨1, 0, z, ⟨by decide, by decide⟩, ⟨hz, hdf⟩, fun rl ff v0 => ⟨_, ⟨rfl, rfl, Nat.le_of_ble_eq_true rfl, Nat.le_of_ble_eq_true rfl⟩, w_opens2 l hl9 D g z0 ad z rl ff hz hj ao v0 hao d9 i hd h_i hg⟩, fun cd dv vo ab be AA hR => ⟨_, 0, ⟨rfl, rfl, Nat.le_of_ble_eq_true rfl, Nat.le_of_ble_eq_true rfl⟩, fun h9 => absurd h9 (by decide), b_opens l D g am cd dv vo ab be AA z hz hR (d9 : Int) i h_d h_i (by have := hR.1; omega) hjm⟩⟩
  · exact ⟨1, 0, z, ⟨by decide, by decide⟩, ⟨hz, hdf⟩, fun rl ff v0 => ⟨_, ⟨rfl, rfl, Nat.le_of_ble_eq_true rfl, Nat.le_of_ble_eq_true rfl⟩, w_opens1 l hl9 D g z0 ad z rl ff hz hj ao v0 hao d i h_d hd0⟩, fun cd dv vo ab be AA hR => ⟨_, 0, ⟨rfl, rfl, Nat.le_of_ble_eq_true rfl, Nat.le_of_ble_eq_true rfl⟩, fun h9 => absurd h9 (by decide), b_opens l D g am cd dv vo ab be AA z hz hR d i h_d h_i (by have := hR.1; omega) hjm⟩⟩
