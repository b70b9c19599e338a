/-! states with one thing changed -/
def zN (z : bSt) (v : Nat) : bSt := (v, bV z, bU z, bK z, bP z, bL z, bM z, bO z, bS z, bD z, bC z, bZ z)
def zV (z : bSt) (v : Int) : bSt := (bN z, v, bU z, bK z, bP z, bL z, bM z, bO z, bS z, bD z, bC z, bZ z)
def zU (z : bSt) (i : Nat) (v : Option Nat) : bSt := (bN z, bV z, jUp (bU z) i v, bK z, bP z, bL z, bM z, bO z, bS z, bD z, bC z, bZ z)
def zK (z : bSt) (i : Nat) (v : Nat) : bSt := (bN z, bV z, bU z, jUp (bK z) i v, bP z, bL z, bM z, bO z, bS z, bD z, bC z, bZ z)
def zP (z : bSt) (i k : Nat) (v : Int) : bSt := (bN z, bV z, bU z, bK z, jUp (bP z) i (jUp (bP z i) k v), bL z, bM z, bO z, bS z, bD z, bC z, bZ z)
def zL (z : bSt) (i k : Nat) (v : Int) : bSt := (bN z, bV z, bU z, bK z, bP z, jUp (bL z) i (jUp (bL z i) k v), bM z, bO z, bS z, bD z, bC z, bZ z)
def zM (z : bSt) (i k : Nat) (v : Int) : bSt := (bN z, bV z, bU z, bK z, bP z, bL z, jUp (bM z) i (jUp (bM z i) k v), bO z, bS z, bD z, bC z, bZ z)
def zO (z : bSt) (i : Nat) (v : Nat) : bSt := (bN z, bV z, bU z, bK z, bP z, bL z, bM z, jUp (bO z) i v, bS z, bD z, bC z, bZ z)
def zS (z : bSt) (i j : Nat) (v : Int) : bSt := (bN z, bV z, bU z, bK z, bP z, bL z, bM z, bO z, jUp (bS z) i (jUp (bS z i) j v), bD z, bC z, bZ z)
def zD (z : bSt) (i j : Nat) (v : Int) : bSt := (bN z, bV z, bU z, bK z, bP z, bL z, bM z, bO z, bS z, jUp (bD z) i (jUp (bD z i) j v), bC z, bZ z)
def zC (z : bSt) (i : Nat) (v : Nat) : bSt := (bN z, bV z, bU z, bK z, bP z, bL z, bM z, bO z, bS z, bD z, jUp (bC z) i v, bZ z)
def zZ (z : bSt) (i : Nat) (v : Int) : bSt := (bN z, bV z, bU z, bK z, bP z, bL z, bM z, bO z, bS z, bD z, bC z, jUp (bZ z) i v)
theorem bW_dev {D : va_G} {g : Nat → ClassId} {ad : Nat → Nat} {z w : bSt} {rl : Nat → Nat → Bool} {ff : Nat → Nat → Int} {H H1 : Heap} (hj : bInj ad) (h : bW D g ad z rl ff H) {i : Nat} (hi : i < 8) (eN : bN w = bN z) (eV : bV w = bV z) (eK : bK w = bK z) (eP : bP w = bP z) (eL : bL w = bL z) (eM : bM w = bM z) (eS : bS w = bS z) (eD : bD w = bD z) (eX : ∀ i2, i2 ≠ i → bU w i2 = bU z i2 ∧ bO w i2 = bO z i2 ∧ bC w i2 = bC z i2 ∧ bZ w i2 = bZ z i2) (oq : ∀ q, q ≠ ad (2 + 12 * i + 0) → H1[q]? = H[q]?) (hn : va_at D vwCl (ad (2 + 12 * i + 0), bDev g ad w rl ff i 0) H1) : bW D g ad w rl ff H1 := by
  refine bW_put hj h (2 + 12 * i + 0) (by omega) oq (by rw [bCell_dev i 0 (by omega)]; exact hn) (bCell_same i 0 eN eV (fun i2 r2 hr2 hne => ?_))
  by_cases h2 : i2 = i
  · subst h2
    rcases (show r2 = 0 ∨ r2 = 1 ∨ r2 = 2 ∨ r2 = 3 ∨ r2 = 4 ∨ r2 = 5 ∨ r2 = 6 ∨ r2 = 7 ∨ r2 = 8 ∨ r2 = 9 ∨ r2 = 10 ∨ r2 = 11 by omega) with rfl | rfl | rfl | rfl | rfl | rfl | rfl | rfl | rfl | rfl | rfl | rfl <;> first | (exfalso; omega) | (simp only [bDev, eK, eP, eL, eM, eS, eD]; done) | (simp only [bDev, eK, eP, eL, eM, eS, eD]; rfl)
  · obtain ⟨x1, x2, x3, x4⟩ := eX i2 h2
    rcases (show r2 = 0 ∨ r2 = 1 ∨ r2 = 2 ∨ r2 = 3 ∨ r2 = 4 ∨ r2 = 5 ∨ r2 = 6 ∨ r2 = 7 ∨ r2 = 8 ∨ r2 = 9 ∨ r2 = 10 ∨ r2 = 11 by omega) with rfl | rfl | rfl | rfl | rfl | rfl | rfl | rfl | rfl | rfl | rfl | rfl <;> first | (simp only [bDev, eK, eP, eL, eM, eS, eD, x1, x2, x3, x4]; done) | (simp only [bDev, eK, eP, eL, eM, eS, eD]; done) | (simp only [bDev]; done)
theorem bW_cur {D : va_G} {g : Nat → ClassId} {ad : Nat → Nat} {z w : bSt} {rl : Nat → Nat → Bool} {ff : Nat → Nat → Int} {H H1 : Heap} (hj : bInj ad) (h : bW D g ad z rl ff H) {i : Nat} (hi : i < 8) (eN : bN w = bN z) (eV : bV w = bV z) (eU : bU w = bU z) (eP : bP w = bP z) (eL : bL w = bL z) (eM : bM w = bM z) (eO : bO w = bO z) (eS : bS w = bS z) (eD : bD w = bD z) (eC : bC w = bC z) (eZ : bZ w = bZ z) (eX : ∀ i2, i2 ≠ i → bK w i2 = bK z i2) (oq : ∀ q, q ≠ ad (2 + 12 * i + 1) → H1[q]? = H[q]?) (hn : va_at D vwCl (ad (2 + 12 * i + 1), bDev g ad w rl ff i 1) H1) : bW D g ad w rl ff H1 := by
  refine bW_put hj h (2 + 12 * i + 1) (by omega) oq (by rw [bCell_dev i 1 (by omega)]; exact hn) (bCell_same i 1 eN eV (fun i2 r2 hr2 hne => ?_))
  by_cases h2 : i2 = i
  · subst h2
    rcases (show r2 = 0 ∨ r2 = 1 ∨ r2 = 2 ∨ r2 = 3 ∨ r2 = 4 ∨ r2 = 5 ∨ r2 = 6 ∨ r2 = 7 ∨ r2 = 8 ∨ r2 = 9 ∨ r2 = 10 ∨ r2 = 11 by omega) with rfl | rfl | rfl | rfl | rfl | rfl | rfl | rfl | rfl | rfl | rfl | rfl <;> first | (exfalso; omega) | (simp only [bDev, eU, eP, eL, eM, eO, eS, eD, eC, eZ]; done) | (simp only [bDev, eU, eP, eL, eM, eO, eS, eD, eC, eZ]; rfl)
  · have x1 := eX i2 h2
    rcases (show r2 = 0 ∨ r2 = 1 ∨ r2 = 2 ∨ r2 = 3 ∨ r2 = 4 ∨ r2 = 5 ∨ r2 = 6 ∨ r2 = 7 ∨ r2 = 8 ∨ r2 = 9 ∨ r2 = 10 ∨ r2 = 11 by omega) with rfl | rfl | rfl | rfl | rfl | rfl | rfl | rfl | rfl | rfl | rfl | rfl <;> first | (simp only [bDev, eU, eP, eL, eM, eO, eS, eD, eC, eZ, x1]; done) | (simp only [bDev, eU, eP, eL, eM, eO, eS, eD, eC, eZ]; done) | (simp only [bDev]; done)
theorem bW_pl {D : va_G} {g : Nat → ClassId} {ad : Nat → Nat} {z w : bSt} {rl : Nat → Nat → Bool} {ff : Nat → Nat → Int} {H H1 : Heap} (hj : bInj ad) (h : bW D g ad z rl ff H) {i : Nat} (hi : i < 8) (eN : bN w = bN z) (eV : bV w = bV z) (eU : bU w = bU z) (eK : bK w = bK z) (eL : bL w = bL z) (eM : bM w = bM z) (eO : bO w = bO z) (eS : bS w = bS z) (eD : bD w = bD z) (eC : bC w = bC z) (eZ : bZ w = bZ z) (eX : ∀ i2, i2 ≠ i → bP w i2 = bP z i2) (oq : ∀ q, q ≠ ad (2 + 12 * i + 2) → H1[q]? = H[q]?) (hn : va_at D vwCl (ad (2 + 12 * i + 2), bDev g ad w rl ff i 2) H1) : bW D g ad w rl ff H1 := by
  refine bW_put hj h (2 + 12 * i + 2) (by omega) oq (by rw [bCell_dev i 2 (by omega)]; exact hn) (bCell_same i 2 eN eV (fun i2 r2 hr2 hne => ?_))
  by_cases h2 : i2 = i
  · subst h2
    rcases (show r2 = 0 ∨ r2 = 1 ∨ r2 = 2 ∨ r2 = 3 ∨ r2 = 4 ∨ r2 = 5 ∨ r2 = 6 ∨ r2 = 7 ∨ r2 = 8 ∨ r2 = 9 ∨ r2 = 10 ∨ r2 = 11 by omega) with rfl | rfl | rfl | rfl | rfl | rfl | rfl | rfl | rfl | rfl | rfl | rfl <;> first | (exfalso; omega) | (simp only [bDev, eU, eK, eL, eM, eO, eS, eD, eC, eZ]; done) | (simp only [bDev, eU, eK, eL, eM, eO, eS, eD, eC, eZ]; rfl)
  · have x1 := eX i2 h2
    rcases (show r2 = 0 ∨ r2 = 1 ∨ r2 = 2 ∨ r2 = 3 ∨ r2 = 4 ∨ r2 = 5 ∨ r2 = 6 ∨ r2 = 7 ∨ r2 = 8 ∨ r2 = 9 ∨ r2 = 10 ∨ r2 = 11 by omega) with rfl | rfl | rfl | rfl | rfl | rfl | rfl | rfl | rfl | rfl | rfl | rfl <;> first | (simp only [bDev, eU, eK, eL, eM, eO, eS, eD, eC, eZ, x1]; done) | (simp only [bDev, eU, eK, eL, eM, eO, eS, eD, eC, eZ]; done) | (simp only [bDev]; done)
theorem bW_le {D : va_G} {g : Nat → ClassId} {ad : Nat → Nat} {z w : bSt} {rl : Nat → Nat → Bool} {ff : Nat → Nat → Int} {H H1 : Heap} (hj : bInj ad) (h : bW D g ad z rl ff H) {i : Nat} (hi : i < 8) (eN : bN w = bN z) (eV : bV w = bV z) (eU : bU w = bU z) (eK : bK w = bK z) (eP : bP w = bP z) (eM : bM w = bM z) (eO : bO w = bO z) (eS : bS w = bS z) (eD : bD w = bD z) (eC : bC w = bC z) (eZ : bZ w = bZ z) (eX : ∀ i2, i2 ≠ i → bL w i2 = bL z i2) (oq : ∀ q, q ≠ ad (2 + 12 * i + 3) → H1[q]? = H[q]?) (hn : va_at D vwCl (ad (2 + 12 * i + 3), bDev g ad w rl ff i 3) H1) : bW D g ad w rl ff H1 := by
  refine bW_put hj h (2 + 12 * i + 3) (by omega) oq (by rw [bCell_dev i 3 (by omega)]; exact hn) (bCell_same i 3 eN eV (fun i2 r2 hr2 hne => ?_))
  by_cases h2 : i2 = i
  · subst h2
    rcases (show r2 = 0 ∨ r2 = 1 ∨ r2 = 2 ∨ r2 = 3 ∨ r2 = 4 ∨ r2 = 5 ∨ r2 = 6 ∨ r2 = 7 ∨ r2 = 8 ∨ r2 = 9 ∨ r2 = 10 ∨ r2 = 11 by omega) with rfl | rfl | rfl | rfl | rfl | rfl | rfl | rfl | rfl | rfl | rfl | rfl <;> first | (exfalso; omega) | (simp only [bDev, eU, eK, eP, eM, eO, eS, eD, eC, eZ]; done) | (simp only [bDev, eU, eK, eP, eM, eO, eS, eD, eC, eZ]; rfl)
  · have x1 := eX i2 h2
    rcases (show r2 = 0 ∨ r2 = 1 ∨ r2 = 2 ∨ r2 = 3 ∨ r2 = 4 ∨ r2 = 5 ∨ r2 = 6 ∨ r2 = 7 ∨ r2 = 8 ∨ r2 = 9 ∨ r2 = 10 ∨ r2 = 11 by omega) with rfl | rfl | rfl | rfl | rfl | rfl | rfl | rfl | rfl | rfl | rfl | rfl <;> first | (simp only [bDev, eU, eK, eP, eM, eO, eS, eD, eC, eZ, x1]; done) | (simp only [bDev, eU, eK, eP, eM, eO, eS, eD, eC, eZ]; done) | (simp only [bDev]; done)
theorem bW_mo {D : va_G} {g : Nat → ClassId} {ad : Nat → Nat} {z w : bSt} {rl : Nat → Nat → Bool} {ff : Nat → Nat → Int} {H H1 : Heap} (hj : bInj ad) (h : bW D g ad z rl ff H) {i : Nat} (hi : i < 8) (eN : bN w = bN z) (eV : bV w = bV z) (eU : bU w = bU z) (eK : bK w = bK z) (eP : bP w = bP z) (eL : bL w = bL z) (eO : bO w = bO z) (eS : bS w = bS z) (eD : bD w = bD z) (eC : bC w = bC z) (eZ : bZ w = bZ z) (eX : ∀ i2, i2 ≠ i → bM w i2 = bM z i2) (oq : ∀ q, q ≠ ad (2 + 12 * i + 4) → H1[q]? = H[q]?) (hn : va_at D vwCl (ad (2 + 12 * i + 4), bDev g ad w rl ff i 4) H1) : bW D g ad w rl ff H1 := by
  refine bW_put hj h (2 + 12 * i + 4) (by omega) oq (by rw [bCell_dev i 4 (by omega)]; exact hn) (bCell_same i 4 eN eV (fun i2 r2 hr2 hne => ?_))
  by_cases h2 : i2 = i
  · subst h2
    rcases (show r2 = 0 ∨ r2 = 1 ∨ r2 = 2 ∨ r2 = 3 ∨ r2 = 4 ∨ r2 = 5 ∨ r2 = 6 ∨ r2 = 7 ∨ r2 = 8 ∨ r2 = 9 ∨ r2 = 10 ∨ r2 = 11 by omega) with rfl | rfl | rfl | rfl | rfl | rfl | rfl | rfl | rfl | rfl | rfl | rfl <;> first | (exfalso; omega) | (simp only [bDev, eU, eK, eP, eL, eO, eS, eD, eC, eZ]; done) | (simp only [bDev, eU, eK, eP, eL, eO, eS, eD, eC, eZ]; rfl)
  · have x1 := eX i2 h2
    rcases (show r2 = 0 ∨ r2 = 1 ∨ r2 = 2 ∨ r2 = 3 ∨ r2 = 4 ∨ r2 = 5 ∨ r2 = 6 ∨ r2 = 7 ∨ r2 = 8 ∨ r2 = 9 ∨ r2 = 10 ∨ r2 = 11 by omega) with rfl | rfl | rfl | rfl | rfl | rfl | rfl | rfl | rfl | rfl | rfl | rfl <;> first | (simp only [bDev, eU, eK, eP, eL, eO, eS, eD, eC, eZ, x1]; done) | (simp only [bDev, eU, eK, eP, eL, eO, eS, eD, eC, eZ]; done) | (simp only [bDev]; done)
theorem bW_sett {D : va_G} {g : Nat → ClassId} {ad : Nat → Nat} {z w : bSt} {rl : Nat → Nat → Bool} {ff : Nat → Nat → Int} {H H1 : Heap} (hj : bInj ad) (h : bW D g ad z rl ff H) {i j : Nat} (hi : i < 8) (hj4 : j < 4) (eN : bN w = bN z) (eV : bV w = bV z) (eU : bU w = bU z) (eK : bK w = bK z) (eP : bP w = bP z) (eL : bL w = bL z) (eM : bM w = bM z) (eO : bO w = bO z) (eC : bC w = bC z) (eZ : bZ w = bZ z) (eX : ∀ i2 j2, (i2 ≠ i ∨ j2 ≠ j) → bS w i2 j2 = bS z i2 j2 ∧ bD w i2 j2 = bD z i2 j2) (oq : ∀ q, q ≠ ad (2 + 12 * i + 6 + j) → H1[q]? = H[q]?) (hn : va_at D vwCl (ad (2 + 12 * i + 6 + j), .inr (2, [.ref (ad (2 + 12 * i + 1)), .int (jI (bS w i j)), .int (jI (bD w i j))])) H1) : bW D g ad w rl ff H1 := by
  have e6 : 2 + 12 * i + 6 + j = 2 + 12 * i + (6 + j) := by omega
  rw [e6] at oq hn
  refine bW_put hj h (2 + 12 * i + (6 + j)) (by omega) oq (by rw [bCell_dev i (6 + j) (by omega)]; rcases (show j = 0 ∨ j = 1 ∨ j = 2 ∨ j = 3 by omega) with rfl | rfl | rfl | rfl <;> exact hn) (bCell_same i (6 + j) eN eV (fun i2 r2 hr2 hne => ?_))
  rcases (show r2 = 0 ∨ r2 = 1 ∨ r2 = 2 ∨ r2 = 3 ∨ r2 = 4 ∨ r2 = 5 ∨ r2 = 6 ∨ r2 = 7 ∨ r2 = 8 ∨ r2 = 9 ∨ r2 = 10 ∨ r2 = 11 by omega) with rfl | rfl | rfl | rfl | rfl | rfl | rfl | rfl | rfl | rfl | rfl | rfl
  · first | (simp only [bDev, eU, eK, eP, eL, eM, eO, eC, eZ]; done) | (simp only [bDev]; done)
  · first | (simp only [bDev, eU, eK, eP, eL, eM, eO, eC, eZ]; done) | (simp only [bDev]; done)
  · first | (simp only [bDev, eU, eK, eP, eL, eM, eO, eC, eZ]; done) | (simp only [bDev]; done)
  · first | (simp only [bDev, eU, eK, eP, eL, eM, eO, eC, eZ]; done) | (simp only [bDev]; done)
  · first | (simp only [bDev, eU, eK, eP, eL, eM, eO, eC, eZ]; done) | (simp only [bDev]; done)
  · first | (simp only [bDev, eU, eK, eP, eL, eM, eO, eC, eZ]; done) | (simp only [bDev]; done)
  · obtain ⟨x1, x2⟩ := eX i2 0 (by omega)
    simp only [bDev, x1, x2]
  · obtain ⟨x1, x2⟩ := eX i2 1 (by omega)
    simp only [bDev, x1, x2]
  · obtain ⟨x1, x2⟩ := eX i2 2 (by omega)
    simp only [bDev, x1, x2]
  · obtain ⟨x1, x2⟩ := eX i2 3 (by omega)
    simp only [bDev, x1, x2]
  · first | (simp only [bDev, eU, eK, eP, eL, eM, eO, eC, eZ]; done) | (simp only [bDev]; done)
  · first | (simp only [bDev, eU, eK, eP, eL, eM, eO, eC, eZ]; done) | (simp only [bDev]; done)
theorem bW_rl {D : va_G} {g : Nat → ClassId} {ad : Nat → Nat} {z : bSt} {rl rl1 : Nat → Nat → Bool} {ff : Nat → Nat → Int} {H H1 : Heap} (hj : bInj ad) (h : bW D g ad z rl ff H) {i : Nat} (hi : i < 8) (eX : ∀ i2, i2 ≠ i → rl1 i2 = rl i2) (oq : ∀ q, q ≠ ad (2 + 12 * i + 10) → H1[q]? = H[q]?) (hn : va_at D vwCl (ad (2 + 12 * i + 10), bDev g ad z rl1 ff i 10) H1) : bW D g ad z rl1 ff H1 := by
  refine bW_put hj h (2 + 12 * i + 10) (by omega) oq (by rw [bCell_dev i 10 (by omega)]; exact hn) (bCell_same i 10 rfl rfl (fun i2 r2 hr2 hne => ?_))
  rcases (show r2 = 0 ∨ r2 = 1 ∨ r2 = 2 ∨ r2 = 3 ∨ r2 = 4 ∨ r2 = 5 ∨ r2 = 6 ∨ r2 = 7 ∨ r2 = 8 ∨ r2 = 9 ∨ r2 = 10 ∨ r2 = 11 by omega) with rfl | rfl | rfl | rfl | rfl | rfl | rfl | rfl | rfl | rfl | rfl | rfl
  · rfl
  · rfl
  · rfl
  · rfl
  · rfl
  · rfl
  · rfl
  · rfl
  · rfl
  · rfl
  · have x1 := eX i2 (by omega)
    simp only [bDev, x1]
  · rfl
theorem bW_ff {D : va_G} {g : Nat → ClassId} {ad : Nat → Nat} {z : bSt} {rl : Nat → Nat → Bool} {ff ff1 : Nat → Nat → Int} {H H1 : Heap} (hj : bInj ad) (h : bW D g ad z rl ff H) {i : Nat} (hi : i < 8) (eX : ∀ i2, i2 ≠ i → ff1 i2 = ff i2) (oq : ∀ q, q ≠ ad (2 + 12 * i + 11) → H1[q]? = H[q]?) (hn : va_at D vwCl (ad (2 + 12 * i + 11), bDev g ad z rl ff1 i 11) H1) : bW D g ad z rl ff1 H1 := by
  refine bW_put hj h (2 + 12 * i + 11) (by omega) oq (by rw [bCell_dev i 11 (by omega)]; exact hn) (bCell_same i 11 rfl rfl (fun i2 r2 hr2 hne => ?_))
  rcases (show r2 = 0 ∨ r2 = 1 ∨ r2 = 2 ∨ r2 = 3 ∨ r2 = 4 ∨ r2 = 5 ∨ r2 = 6 ∨ r2 = 7 ∨ r2 = 8 ∨ r2 = 9 ∨ r2 = 10 ∨ r2 = 11 by omega) with rfl | rfl | rfl | rfl | rfl | rfl | rfl | rfl | rfl | rfl | rfl | rfl
  · rfl
  · rfl
  · rfl
  · rfl
  · rfl
  · rfl
  · rfl
  · rfl
  · rfl
  · rfl
  · rfl
  · have x1 := eX i2 (by omega)
    simp only [bDev, x1]
theorem bW_self {D : va_G} {g : Nat → ClassId} {ad : Nat → Nat} {z w : bSt} {rl : Nat → Nat → Bool} {ff : Nat → Nat → Int} {H H1 : Heap} (hj : bInj ad) (h : bW D g ad z rl ff H) (eU : bU w = bU z) (eK : bK w = bK z) (eP : bP w = bP z) (eL : bL w = bL z) (eM : bM w = bM z) (eO : bO w = bO z) (eS : bS w = bS z) (eD : bD w = bD z) (eC : bC w = bC z) (eZ : bZ w = bZ z) (oq : ∀ q, q ≠ ad 0 → H1[q]? = H[q]?) (hn : va_at D vwCl (ad 0, .inr (3, [.ref (ad 1), .int (jI (bN w : Int)), .int (jI (bV w))])) H1) : bW D g ad w rl ff H1 := by
  refine bW_put hj h 0 (by omega) oq hn (fun q hq hne => ?_)
  unfold bCell
  rw [if_neg hne, if_neg hne]
  by_cases h1 : q = 1
  · rw [if_pos h1, if_pos h1]
  · rw [if_neg h1, if_neg h1]
    have hr2 : (q - 2) % 12 < 12 := by omega
    generalize (q - 2) / 12 = i2
    generalize (q - 2) % 12 = r2 at hr2 ⊢
    rcases (show r2 = 0 ∨ r2 = 1 ∨ r2 = 2 ∨ r2 = 3 ∨ r2 = 4 ∨ r2 = 5 ∨ r2 = 6 ∨ r2 = 7 ∨ r2 = 8 ∨ r2 = 9 ∨ r2 = 10 ∨ r2 = 11 by omega) with rfl | rfl | rfl | rfl | rfl | rfl | rfl | rfl | rfl | rfl | rfl | rfl <;> first | (simp only [bDev, eU, eK, eP, eL, eM, eO, eS, eD, eC, eZ]; done) | (simp only [bDev]; done)
theorem bX_dev {D : va_G} {g : Nat → ClassId} {ad : Nat → Nat} {z w : bSt} {rl : Nat → Nat → Bool} {ff : Nat → Nat → Int} {H H1 : Heap} (hj : bInj ad) (h : bW D g ad z rl ff H) {i : Nat} (hi : i < 8) (eN : bN w = bN z) (eV : bV w = bV z) (eK : bK w = bK z) (eP : bP w = bP z) (eL : bL w = bL z) (eM : bM w = bM z) (eS : bS w = bS z) (eD : bD w = bD z) (eX : ∀ i2, i2 ≠ i → bU w i2 = bU z i2 ∧ bO w i2 = bO z i2 ∧ bC w i2 = bC z i2 ∧ bZ w i2 = bZ z i2) {u : Option Nat} {o c : Nat} {y : Int} (e1 : bU w i = u) (e2 : bO w i = o) (e3 : bC w i = c) (e4 : bZ w i = y) (oq : ∀ q, q ≠ ad (2 + 12 * i) → H1[q]? = H[q]?) (hn : va_at D vwCl (ad (2 + 12 * i), .inr (1, [.int (jI (i : Int)), .ref (ad (2 + 12 * i + 1)), .ref (ad (2 + 12 * i + 5)), .ref (ad (2 + 12 * i + 10)), .ref (ad (2 + 12 * i + 11)), va_rf (u.map (fun u => ad (2 + 12 * u))), .int (jI (o : Int)), .int (jI (c : Int)), .int (jI y)])) H1) : bW D g ad w rl ff H1 := by
  subst e1; subst e2; subst e3; subst e4
  exact bW_dev hj h hi eN eV eK eP eL eM eS eD eX oq hn
theorem bX_cur {D : va_G} {g : Nat → ClassId} {ad : Nat → Nat} {z w : bSt} {rl : Nat → Nat → Bool} {ff : Nat → Nat → Int} {H H1 : Heap} (hj : bInj ad) (h : bW D g ad z rl ff H) {i : Nat} (hi : i < 8) (eN : bN w = bN z) (eV : bV w = bV z) (eU : bU w = bU z) (eP : bP w = bP z) (eL : bL w = bL z) (eM : bM w = bM z) (eO : bO w = bO z) (eS : bS w = bS z) (eD : bD w = bD z) (eC : bC w = bC z) (eZ : bZ w = bZ z) (eX : ∀ i2, i2 ≠ i → bK w i2 = bK z i2) {k : Nat} (e1 : bK w i = k) (oq : ∀ q, q ≠ ad (2 + 12 * i + 1) → H1[q]? = H[q]?) (hn : va_at D vwCl (ad (2 + 12 * i + 1), .inr (0, [.ref (ad (2 + 12 * i + 2)), .ref (ad (2 + 12 * i + 3)), .ref (ad (2 + 12 * i + 4)), .int (jI (k : Int))])) H1) : bW D g ad w rl ff H1 := by
  subst e1
  exact bW_cur hj h hi eN eV eU eP eL eM eO eS eD eC eZ eX oq hn
theorem bX_pl {D : va_G} {g : Nat → ClassId} {ad : Nat → Nat} {z w : bSt} {rl : Nat → Nat → Bool} {ff : Nat → Nat → Int} {H H1 : Heap} (hj : bInj ad) (h : bW D g ad z rl ff H) {i : Nat} (hi : i < 8) (eN : bN w = bN z) (eV : bV w = bV z) (eU : bU w = bU z) (eK : bK w = bK z) (eL : bL w = bL z) (eM : bM w = bM z) (eO : bO w = bO z) (eS : bS w = bS z) (eD : bD w = bD z) (eC : bC w = bC z) (eZ : bZ w = bZ z) (eX : ∀ i2, i2 ≠ i → bP w i2 = bP z i2) {f : Nat → Int} (e1 : bP w i = f) (oq : ∀ q, q ≠ ad (2 + 12 * i + 2) → H1[q]? = H[q]?) (hn : va_at D vwCl (ad (2 + 12 * i + 2), .inl (g 0, 6, .inl (fun k => jI (f k)))) H1) : bW D g ad w rl ff H1 := by
  subst e1
  exact bW_pl hj h hi eN eV eU eK eL eM eO eS eD eC eZ eX oq hn
theorem bX_le {D : va_G} {g : Nat → ClassId} {ad : Nat → Nat} {z w : bSt} {rl : Nat → Nat → Bool} {ff : Nat → Nat → Int} {H H1 : Heap} (hj : bInj ad) (h : bW D g ad z rl ff H) {i : Nat} (hi : i < 8) (eN : bN w = bN z) (eV : bV w = bV z) (eU : bU w = bU z) (eK : bK w = bK z) (eP : bP w = bP z) (eM : bM w = bM z) (eO : bO w = bO z) (eS : bS w = bS z) (eD : bD w = bD z) (eC : bC w = bC z) (eZ : bZ w = bZ z) (eX : ∀ i2, i2 ≠ i → bL w i2 = bL z i2) {f : Nat → Int} (e1 : bL w i = f) (oq : ∀ q, q ≠ ad (2 + 12 * i + 3) → H1[q]? = H[q]?) (hn : va_at D vwCl (ad (2 + 12 * i + 3), .inl (g 0, 6, .inl (fun k => jI (f k)))) H1) : bW D g ad w rl ff H1 := by
  subst e1
  exact bW_le hj h hi eN eV eU eK eP eM eO eS eD eC eZ eX oq hn
theorem bX_mo {D : va_G} {g : Nat → ClassId} {ad : Nat → Nat} {z w : bSt} {rl : Nat → Nat → Bool} {ff : Nat → Nat → Int} {H H1 : Heap} (hj : bInj ad) (h : bW D g ad z rl ff H) {i : Nat} (hi : i < 8) (eN : bN w = bN z) (eV : bV w = bV z) (eU : bU w = bU z) (eK : bK w = bK z) (eP : bP w = bP z) (eL : bL w = bL z) (eO : bO w = bO z) (eS : bS w = bS z) (eD : bD w = bD z) (eC : bC w = bC z) (eZ : bZ w = bZ z) (eX : ∀ i2, i2 ≠ i → bM w i2 = bM z i2) {f : Nat → Int} (e1 : bM w i = f) (oq : ∀ q, q ≠ ad (2 + 12 * i + 4) → H1[q]? = H[q]?) (hn : va_at D vwCl (ad (2 + 12 * i + 4), .inl (g 0, 6, .inl (fun k => jI (f k)))) H1) : bW D g ad w rl ff H1 := by
  subst e1
  exact bW_mo hj h hi eN eV eU eK eP eL eO eS eD eC eZ eX oq hn
theorem bX_rl {D : va_G} {g : Nat → ClassId} {ad : Nat → Nat} {z : bSt} {rl rl1 : Nat → Nat → Bool} {ff : Nat → Nat → Int} {H H1 : Heap} (hj : bInj ad) (h : bW D g ad z rl ff H) {i : Nat} (hi : i < 8) (eX : ∀ i2, i2 ≠ i → rl1 i2 = rl i2) {f : Nat → Bool} (e1 : rl1 i = f) (oq : ∀ q, q ≠ ad (2 + 12 * i + 10) → H1[q]? = H[q]?) (hn : va_at D vwCl (ad (2 + 12 * i + 10), .inl (g 1, 4, .inl (fun k => jI (bI (f k))))) H1) : bW D g ad z rl1 ff H1 := by
  subst e1
  exact bW_rl hj h hi eX oq hn
theorem bX_ff {D : va_G} {g : Nat → ClassId} {ad : Nat → Nat} {z : bSt} {rl : Nat → Nat → Bool} {ff ff1 : Nat → Nat → Int} {H H1 : Heap} (hj : bInj ad) (h : bW D g ad z rl ff H) {i : Nat} (hi : i < 8) (eX : ∀ i2, i2 ≠ i → ff1 i2 = ff i2) {f : Nat → Int} (e1 : ff1 i = f) (oq : ∀ q, q ≠ ad (2 + 12 * i + 11) → H1[q]? = H[q]?) (hn : va_at D vwCl (ad (2 + 12 * i + 11), .inl (g 0, 4, .inl (fun k => jI (f k)))) H1) : bW D g ad z rl ff1 H1 := by
  subst e1
  exact bW_ff hj h hi eX oq hn
theorem bX_sett {D : va_G} {g : Nat → ClassId} {ad : Nat → Nat} {z w : bSt} {rl : Nat → Nat → Bool} {ff : Nat → Nat → Int} {H H1 : Heap} (hj : bInj ad) (h : bW D g ad z rl ff H) {i j : Nat} (hi : i < 8) (hj4 : j < 4) (eN : bN w = bN z) (eV : bV w = bV z) (eU : bU w = bU z) (eK : bK w = bK z) (eP : bP w = bP z) (eL : bL w = bL z) (eM : bM w = bM z) (eO : bO w = bO z) (eC : bC w = bC z) (eZ : bZ w = bZ z) (eX : ∀ i2 j2, (i2 ≠ i ∨ j2 ≠ j) → bS w i2 j2 = bS z i2 j2 ∧ bD w i2 j2 = bD z i2 j2) {x y : Int} (e1 : bS w i j = x) (e2 : bD w i j = y) (oq : ∀ q, q ≠ ad (2 + 12 * i + 6 + j) → H1[q]? = H[q]?) (hn : va_at D vwCl (ad (2 + 12 * i + 6 + j), .inr (2, [.ref (ad (2 + 12 * i + 1)), .int (jI x), .int (jI y)])) H1) : bW D g ad w rl ff H1 := by
  subst e1; subst e2
  exact bW_sett hj h hi hj4 eN eV eU eK eP eL eM eO eC eZ eX oq hn
theorem bX_self {D : va_G} {g : Nat → ClassId} {ad : Nat → Nat} {z w : bSt} {rl : Nat → Nat → Bool} {ff : Nat → Nat → Int} {H H1 : Heap} (hj : bInj ad) (h : bW D g ad z rl ff H) (eU : bU w = bU z) (eK : bK w = bK z) (eP : bP w = bP z) (eL : bL w = bL z) (eM : bM w = bM z) (eO : bO w = bO z) (eS : bS w = bS z) (eD : bD w = bD z) (eC : bC w = bC z) (eZ : bZ w = bZ z) {a : Nat} {b : Int} (e1 : bN w = a) (e2 : bV w = b) (oq : ∀ q, q ≠ ad 0 → H1[q]? = H[q]?) (hn : va_at D vwCl (ad 0, .inr (3, [.ref (ad 1), .int (jI (a : Int)), .int (jI b)])) H1) : bW D g ad w rl ff H1 := by
  subst e1; subst e2
  exact bW_self hj h eU eK eP eL eM eO eS eD eC eZ oq hn
/-! a method that writes the object's cells alone -/
def bFr (ad : Nat → Nat) : Addr → Prop := fun q => ∃ r, r < 98 ∧ q = ad r
def bTo (ad : Nat → Nat) (H0 H : Heap) (locs : List Loc) : Prop := H.size = H0.size ∧ (∀ q : Nat, ¬ bFr ad q → H[q]? = H0[q]?) ∧ ∀ q ∈ locs, bFr ad q.base
theorem bTo.rf {ad : Nat → Nat} {H : Heap} : bTo ad H H [] := ⟨rfl, fun _ _ => rfl, fun _ h => by cases h⟩
theorem bTo.put {ad : Nat → Nat} {H0 H H1 : Heap} {locs : List Loc} (h : bTo ad H0 H locs) (r : Nat) (hr : r < 98) (hz : H1.size = H.size) (oq : ∀ q, q ≠ ad r → H1[q]? = H[q]?) {f : Nat} : bTo ad H0 H1 (locs ++ [⟨ad r, f⟩]) := by
  refine ⟨hz.trans h.1, fun q hq => (oq q (fun e => hq ⟨r, hr, e⟩)).trans (h.2.1 q hq), fun q hq => ?_⟩
  rcases List.mem_append.mp hq with h1 | h1
  · exact h.2.2 q h1
  · rw [List.mem_singleton.mp h1]
    exact ⟨r, hr, rfl⟩
def bQ (D : va_G) (g : Nat → ClassId) (ad : Nat → Nat) (v : Option Value) (w : bSt) (Ph : (Nat → Nat → Bool) → (Nat → Nat → Int) → Prop) : Array Value → State → Outcome → State → Prop := fun _ st o t => o = .returned v ∧ (∃ rl ff, Ph rl ff ∧ bW D g ad w rl ff t.heap) ∧ t.heap.size = st.heap.size ∧ ∀ q : Nat, ¬ bFr ad q → t.heap[q]? = st.heap[q]?
section BCALL
variable {p : Program} {l : Launch} {e : Env} {R : Room} {s : State} {m : MethodId} {args : Array Value} {below : List Frame} {meth : Method} {c : Code} {H H0 : Heap} {locs : List Loc} {cells slots : Nat} {Q : State → Prop}
variable {cc : ByteArray} {pc : Nat} {ls : Array Slot} {rest st0 : List Value} {a : Array Value} {D : va_G} {g : Nat → ClassId} {ad : Nat → Nat} {w : bSt} {rl : Nat → Nat → Bool} {ff : Nat → Nat → Int} {Ph : (Nat → Nat → Bool) → (Nat → Nat → Int) → Prop}
theorem b_call {v : Option Value} (hr : va_Run p l e R s m args below meth c H locs cells slots 0 0 (F0 m pc ls st0) rest (bQ D g ad v w Ph a) (bFr ad)) (hT0 : bTo ad H0 H locs)
    (kk : ∀ (H1 : Heap) (locs1 : List Loc) (rl : Nat → Nat → Bool) (ff : Nat → Nat → Int), Ph rl ff → bW D g ad w rl ff H1 → bTo ad H0 H1 locs1 → W p l e R s m args below meth c H1 locs1 cells slots Q (F0 m (pc + 3) ls (v.toList ++ rest))) : W p l e R s m args below meth c H locs cells slots Q (F0 m pc ls st0) := by
  intro T hT X
  obtain ⟨v', st₀, t, T', L, h0, X', hL, e1, e2, ⟨hv, ⟨rl, ff, hPh, hW⟩, hz, hk⟩, st⟩ := hr T hT X
  cases hv
  rw [h0] at hz hk
  obtain ⟨t2, a1, b1⟩ := kk T'.heap (locs ++ L) rl ff hPh (by rw [e1]; exact hW) ⟨by rw [e1, hz]; exact hT0.1, fun q hq => by rw [e1, hk q hq]; exact hT0.2.1 q hq, fun q hq => by
    rcases List.mem_append.mp hq with h1 | h1
    · exact hT0.2.2 q h1
    · exact hL q h1⟩ T' rfl X'
  exact ⟨t2, st t2 a1, b1⟩
theorem b_iret {x y : Int} (hexec : p.tables.exec = Jvm.exec) (hb : c.code = cc) (hr : meth.sig.returnType = some .int) (hlocks : meth.locks = false) (hdg : decode cc pc = .ok (.ireturn, 1)) (hPh : Ph rl ff) (hW : bW D g ad w rl ff H) (hT0 : bTo ad s.heap H locs) (hv : x = y) :
    W p l e R s m args below meth c H locs 0 0 (MQ below (bQ D g ad (some (.int (jI y))) w Ph) args s 0 0 (bFr ad)) (F0 m pc ls [.int (jI x)]) := by
  subst hv
  exact W.iret hexec hb hr (fun t ht _ => ⟨rfl, ⟨rl, ff, hPh, by rw [ht]; exact hW⟩, by rw [ht]; exact hT0.1, fun q hq => by rw [ht]; exact hT0.2.1 q hq⟩) hT0.2.2 hdg
theorem b_zret {x : Int} {y : Bool} (hexec : p.tables.exec = Jvm.exec) (hb : c.code = cc) (hr : meth.sig.returnType = some .boolean) (hlocks : meth.locks = false) (hdg : decode cc pc = .ok (.ireturn, 1)) (hPh : Ph rl ff) (hW : bW D g ad w rl ff H) (hT0 : bTo ad s.heap H locs) (hv : x = bI y) :
    W p l e R s m args below meth c H locs 0 0 (MQ below (bQ D g ad (some (.int (jI (bI y)))) w Ph) args s 0 0 (bFr ad)) (F0 m pc ls [.int (jI x)]) := by
  subst hv
  exact W.zret hexec hb hr (bI_narrow y) (fun t ht _ => ⟨rfl, ⟨rl, ff, hPh, by rw [ht]; exact hW⟩, by rw [ht]; exact hT0.1, fun q hq => by rw [ht]; exact hT0.2.1 q hq⟩) hT0.2.2 hdg
theorem b_vret (hexec : p.tables.exec = Jvm.exec) (hb : c.code = cc) (hr : meth.sig.returnType = none) (hlocks : meth.locks = false) (hdg : decode cc pc = .ok (.return_, 1)) (hPh : Ph rl ff) (hW : bW D g ad w rl ff H) (hT0 : bTo ad s.heap H locs) :
    W p l e R s m args below meth c H locs 0 0 (MQ below (bQ D g ad none w Ph) args s 0 0 (bFr ad)) (F0 m pc ls []) :=
  W.vret hexec hb hr (fun t ht _ => ⟨rfl, ⟨rl, ff, hPh, by rw [ht]; exact hW⟩, by rw [ht]; exact hT0.1, fun q hq => by rw [ht]; exact hT0.2.1 q hq⟩) hT0.2.2 hdg
end BCALL
