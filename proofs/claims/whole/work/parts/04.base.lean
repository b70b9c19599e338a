/-! numbers: an int or a long by the whole number that it stands for -/
section JNum
def jI (a : Int) : Int32 := Int32.ofInt a
def jL (a : Int) : Int64 := Int64.ofInt a
theorem jI_add (a b : Int) : jI a + jI b = jI (a + b) := (Int32.ofInt_add a b).symm
theorem jI_sub (a b : Int) : jI a - jI b = jI (a - b) := (Int32.ofInt_sub a b).symm
theorem jI_mul (a b : Int) : jI a * jI b = jI (a * b) := (Int32.ofInt_mul a b).symm
theorem jL_add (a b : Int) : jL a + jL b = jL (a + b) := (Int64.ofInt_add a b).symm
theorem jL_sub (a b : Int) : jL a - jL b = jL (a - b) := (Int64.ofInt_sub a b).symm
theorem jL_mul (a b : Int) : jL a * jL b = jL (a * b) := (Int64.ofInt_mul a b).symm
theorem jI_toInt {a : Int} (h : -2147483648 ≤ a ∧ a < 2147483648) : (jI a).toInt = a := Int32.toInt_ofInt_of_le (by omega) (by omega)
theorem jL_toInt {a : Int} (h : -9223372036854775808 ≤ a ∧ a < 9223372036854775808) : (jL a).toInt = a := Int64.toInt_ofInt_of_le (by omega) (by omega)
theorem jI_self (x : Int32) : jI x.toInt = x := Int32.ofInt_toInt x
theorem jI_le {a b : Int} (ha : -2147483648 ≤ a ∧ a < 2147483648) (hb : -2147483648 ≤ b ∧ b < 2147483648) : jI a ≤ jI b ↔ a ≤ b := by
  rw [Int32.le_iff_toInt_le, jI_toInt ha, jI_toInt hb]
theorem jI_lt {a b : Int} (ha : -2147483648 ≤ a ∧ a < 2147483648) (hb : -2147483648 ≤ b ∧ b < 2147483648) : jI a < jI b ↔ a < b := by
  rw [Int32.lt_iff_toInt_lt, jI_toInt ha, jI_toInt hb]
theorem jI_eq {a b : Int} (ha : -2147483648 ≤ a ∧ a < 2147483648) (hb : -2147483648 ≤ b ∧ b < 2147483648) : jI a = jI b ↔ a = b := by
  rw [← Int32.toInt_inj, jI_toInt ha, jI_toInt hb]
theorem jL_le {a b : Int} (ha : -9223372036854775808 ≤ a ∧ a < 9223372036854775808) (hb : -9223372036854775808 ≤ b ∧ b < 9223372036854775808) : jL a ≤ jL b ↔ a ≤ b := by
  rw [Int64.le_iff_toInt_le, jL_toInt ha, jL_toInt hb]
theorem jL_lt {a b : Int} (ha : -9223372036854775808 ≤ a ∧ a < 9223372036854775808) (hb : -9223372036854775808 ≤ b ∧ b < 9223372036854775808) : jL a < jL b ↔ a < b := by
  rw [Int64.lt_iff_toInt_lt, jL_toInt ha, jL_toInt hb]
theorem jL_eq {a b : Int} (ha : -9223372036854775808 ≤ a ∧ a < 9223372036854775808) (hb : -9223372036854775808 ≤ b ∧ b < 9223372036854775808) : jL a = jL b ↔ a = b := by
  rw [← Int64.toInt_inj, jL_toInt ha, jL_toInt hb]
theorem jI_0 : (0 : Int32) = jI 0 := rfl
theorem jI_nat (n : Nat) : nI n = jI (n : Int) := Int32.ofInt_eq_ofNat.symm
theorem jI_i2l {a : Int} (h : -2147483648 ≤ a ∧ a < 2147483648) : (jI a).toInt64 = jL a := by
  have h1 : Int32.minValue.toInt = -2147483648 := by decide
  have h2 : Int32.maxValue.toInt = 2147483647 := by decide
  exact Int32.toInt64_ofInt (by rw [h1]; omega) (by rw [h2]; omega)
theorem jL_l2i (a : Int) : (jL a).toInt32 = jI a := Int64.toInt32_ofInt
theorem jI_div {a b : Int} (ha : 0 ≤ a ∧ a < 2147483648) (hb : 0 < b ∧ b < 2147483648) : jI a / jI b = jI (a / b) := by
  have h1 : Int32.minValue.toInt = -2147483648 := by decide
  have h2 : Int32.maxValue.toInt = 2147483647 := by decide
  have h := Int32.ofInt_tdiv (a := a) (b := b) (by rw [h1]; omega) (by rw [h2]; omega) (by rw [h1]; omega) (by rw [h2]; omega)
  rw [Int.tdiv_eq_ediv_of_nonneg ha.1] at h
  exact h.symm
theorem jL_div {a b : Int} (ha : 0 ≤ a ∧ a < 9223372036854775808) (hb : 0 < b ∧ b < 9223372036854775808) : jL a / jL b = jL (a / b) := by
  have h1 : Int64.minValue.toInt = -9223372036854775808 := by decide
  have h2 : Int64.maxValue.toInt = 9223372036854775807 := by decide
  have h := Int64.ofInt_tdiv (a := a) (b := b) (by rw [h1]; omega) (by rw [h2]; omega) (by rw [h1]; omega) (by rw [h2]; omega)
  rw [Int.tdiv_eq_ediv_of_nonneg ha.1] at h
  exact h.symm
theorem jI_clamp {a : Int} (h : -2147483648 ≤ a ∧ a < 2147483648) : (jI a).toNatClampNeg = a.toNat := Int32.toNatClampNeg_ofInt_of_le (by omega) (by omega)
theorem jI_clampN {i : Nat} (h : i < 2147483648) : (jI (i : Int)).toNatClampNeg = i := by rw [jI_clamp (by omega)]; rfl
theorem jI_in {i n : Nat} (h : i < n) (hn : n < 2147483648) : vp_in (jI (i : Int)) n := vp_in_iff.mpr (by rw [jI_toInt (by omega)]; omega)
/-- a truth as a number -/
def bI (b : Bool) : Int := if b then 1 else 0
theorem bI_rng (b : Bool) : -2147483648 ≤ bI b ∧ bI b < 2147483648 := by cases b <;> decide
theorem bI_tr {b : Bool} (h : bI b ≠ 0) : b = true := by cases b with | true => rfl | false => exact absurd rfl h
theorem bI_fa {b : Bool} (h : bI b = 0) : b = false := by cases b with | true => exact absurd h (by decide) | false => rfl
theorem bI_ij {a b : Bool} (h : bI a = bI b) : a = b := by revert h; cases a <;> cases b <;> decide
theorem bI_nj {a b : Bool} (h : bI a ≠ bI b) : a ≠ b := fun q => h (by rw [q])
theorem jI_min {a b : Int} (ha : -2147483648 ≤ a ∧ a < 2147483648) (hb : -2147483648 ≤ b ∧ b < 2147483648) : (if jI b < jI a then jI b else jI a) = jI (min a b) := by
  by_cases h : b < a
  · rw [if_pos ((jI_lt hb ha).mpr h), show min a b = b by omega]
  · rw [if_neg (fun q => h ((jI_lt hb ha).mp q)), show min a b = a by omega]
theorem jL_min {a b : Int} (ha : -9223372036854775808 ≤ a ∧ a < 9223372036854775808) (hb : -9223372036854775808 ≤ b ∧ b < 9223372036854775808) : (if jL b < jL a then jL b else jL a) = jL (min a b) := by
  by_cases h : b < a
  · rw [if_pos ((jL_lt hb ha).mpr h), show min a b = b by omega]
  · rw [if_neg (fun q => h ((jL_lt hb ha).mp q)), show min a b = a by omega]
end JNum
/-! one cell's world -/
theorem j_P1 {D : va_G} {cl : List vw_C} {q : Nat × va_E} {H : Heap} (h : va_at D cl q H) : va_P D cl [q] H := fun k x hk => by
  have hx := List.mem_of_getElem? hk
  rw [List.mem_singleton.mp hx]
  exact h
section JV
variable {p : Program} {l : Launch} {e : Env} {R : Room} {s : State} {m : MethodId} {args : Array Value} {below : List Frame} {meth : Method} {c : Code} {H : Heap} {locs : List Loc} {cells slots : Nat} {Q : State → Prop}
variable {cc : ByteArray} {pc : Nat} {ls : Array Slot} {rest : List Value} {a b : Int}
theorem jv_iconst (hexec : p.tables.exec = Jvm.exec) (hb : c.code = cc) {n : Int} (hdg : decode cc pc = .ok (.iconst n, 1))
    (k : W p l e R s m args below meth c H locs cells slots Q (F0 m (pc + 1) ls (.int (jI n) :: rest))) : W p l e R s m args below meth c H locs cells slots Q (F0 m pc ls rest) := lv_iconst hexec hb hdg rfl k
theorem jv_bipush (hexec : p.tables.exec = Jvm.exec) (hb : c.code = cc) {n : Int} (hdg : decode cc pc = .ok (.bipush n, 2)) (hn : (Int8.ofInt n).toInt32 = jI n)
    (k : W p l e R s m args below meth c H locs cells slots Q (F0 m (pc + 2) ls (.int (jI n) :: rest))) : W p l e R s m args below meth c H locs cells slots Q (F0 m pc ls rest) := lv_bipush hexec hb hdg hn k
theorem jv_sipush (hexec : p.tables.exec = Jvm.exec) (hb : c.code = cc) {n : Int} (hdg : decode cc pc = .ok (.sipush n, 3)) (hn : (Int16.ofInt n).toInt32 = jI n)
    (k : W p l e R s m args below meth c H locs cells slots Q (F0 m (pc + 3) ls (.int (jI n) :: rest))) : W p l e R s m args below meth c H locs cells slots Q (F0 m pc ls rest) := lv_sipush hexec hb hdg hn k
theorem jv_lconst (hexec : p.tables.exec = Jvm.exec) (hb : c.code = cc) {n : Fin 2} {k : Int} (hdg : decode cc pc = .ok (.lconst n, 1)) (hn : Int64.ofNat (n : Nat) = jL k)
    (kk : W p l e R s m args below meth c H locs cells slots Q (F0 m (pc + 1) ls (.long (jL k) :: rest))) : W p l e R s m args below meth c H locs cells slots Q (F0 m pc ls rest) := lv_lconst hexec hb hdg hn kk
theorem jv_iadd (hexec : p.tables.exec = Jvm.exec) (hb : c.code = cc) (hdg : decode cc pc = .ok (.iadd, 1))
    (k : W p l e R s m args below meth c H locs cells slots Q (F0 m (pc + 1) ls (.int (jI (a + b)) :: rest))) : W p l e R s m args below meth c H locs cells slots Q (F0 m pc ls (.int (jI b) :: .int (jI a) :: rest)) :=
  lv_iadd hexec hb hdg (by rw [jI_add]; exact k)
theorem jv_isub (hexec : p.tables.exec = Jvm.exec) (hb : c.code = cc) (hdg : decode cc pc = .ok (.isub, 1))
    (k : W p l e R s m args below meth c H locs cells slots Q (F0 m (pc + 1) ls (.int (jI (a - b)) :: rest))) : W p l e R s m args below meth c H locs cells slots Q (F0 m pc ls (.int (jI b) :: .int (jI a) :: rest)) :=
  lv_isub hexec hb hdg (by rw [jI_sub]; exact k)
theorem jv_imul (hexec : p.tables.exec = Jvm.exec) (hb : c.code = cc) (hdg : decode cc pc = .ok (.imul, 1))
    (k : W p l e R s m args below meth c H locs cells slots Q (F0 m (pc + 1) ls (.int (jI (a * b)) :: rest))) : W p l e R s m args below meth c H locs cells slots Q (F0 m pc ls (.int (jI b) :: .int (jI a) :: rest)) :=
  lv_imul hexec hb hdg (by rw [jI_mul]; exact k)
theorem jv_idiv (hexec : p.tables.exec = Jvm.exec) (hb : c.code = cc) (hdg : decode cc pc = .ok (.idiv, 1)) (h1 : 0 ≤ a ∧ a < 2147483648) (h2 : 0 < b ∧ b < 2147483648)
    (k : W p l e R s m args below meth c H locs cells slots Q (F0 m (pc + 1) ls (.int (jI (a / b)) :: rest))) : W p l e R s m args below meth c H locs cells slots Q (F0 m pc ls (.int (jI b) :: .int (jI a) :: rest)) :=
  lv_idiv hexec hb hdg (fun h => by rw [jI_0, jI_eq (by omega) (by omega)] at h; omega) (by rw [jI_div h1 h2]; exact k)
theorem jv_ladd (hexec : p.tables.exec = Jvm.exec) (hb : c.code = cc) (hdg : decode cc pc = .ok (.ladd, 1))
    (k : W p l e R s m args below meth c H locs cells slots Q (F0 m (pc + 1) ls (.long (jL (a + b)) :: rest))) : W p l e R s m args below meth c H locs cells slots Q (F0 m pc ls (.long (jL b) :: .long (jL a) :: rest)) :=
  lv_ladd hexec hb hdg (by rw [jL_add]; exact k)
theorem jv_lsub (hexec : p.tables.exec = Jvm.exec) (hb : c.code = cc) (hdg : decode cc pc = .ok (.lsub, 1))
    (k : W p l e R s m args below meth c H locs cells slots Q (F0 m (pc + 1) ls (.long (jL (a - b)) :: rest))) : W p l e R s m args below meth c H locs cells slots Q (F0 m pc ls (.long (jL b) :: .long (jL a) :: rest)) :=
  lv_lsub hexec hb hdg (by rw [jL_sub]; exact k)
theorem jv_lmul (hexec : p.tables.exec = Jvm.exec) (hb : c.code = cc) (hdg : decode cc pc = .ok (.lmul, 1))
    (k : W p l e R s m args below meth c H locs cells slots Q (F0 m (pc + 1) ls (.long (jL (a * b)) :: rest))) : W p l e R s m args below meth c H locs cells slots Q (F0 m pc ls (.long (jL b) :: .long (jL a) :: rest)) :=
  lv_lmul hexec hb hdg (by rw [jL_mul]; exact k)
theorem jv_ldiv (hexec : p.tables.exec = Jvm.exec) (hb : c.code = cc) (hdg : decode cc pc = .ok (.ldiv, 1)) (h1 : 0 ≤ a ∧ a < 9223372036854775808) (h2 : 0 < b ∧ b < 9223372036854775808)
    (k : W p l e R s m args below meth c H locs cells slots Q (F0 m (pc + 1) ls (.long (jL (a / b)) :: rest))) : W p l e R s m args below meth c H locs cells slots Q (F0 m pc ls (.long (jL b) :: .long (jL a) :: rest)) :=
  lv_ldiv hexec hb hdg (fun h => by rw [show (0 : Int64) = jL 0 from rfl, jL_eq (by omega) (by omega)] at h; omega) (by rw [jL_div h1 h2]; exact k)
theorem jv_i2l (hexec : p.tables.exec = Jvm.exec) (hb : c.code = cc) (hdg : decode cc pc = .ok (.i2l, 1)) (h : -2147483648 ≤ a ∧ a < 2147483648)
    (k : W p l e R s m args below meth c H locs cells slots Q (F0 m (pc + 1) ls (.long (jL a) :: rest))) : W p l e R s m args below meth c H locs cells slots Q (F0 m pc ls (.int (jI a) :: rest)) :=
  lv_i2l hexec hb hdg (jI_i2l h) k
theorem jv_l2i (hexec : p.tables.exec = Jvm.exec) (hb : c.code = cc) (hdg : decode cc pc = .ok (.l2i, 1))
    (k : W p l e R s m args below meth c H locs cells slots Q (F0 m (pc + 1) ls (.int (jI a) :: rest))) : W p l e R s m args below meth c H locs cells slots Q (F0 m pc ls (.long (jL a) :: rest)) :=
  lv_l2i hexec hb hdg (jL_l2i a) k
theorem jv_icmp_lt (hexec : p.tables.exec = Jvm.exec) (hb : c.code = cc) {off : Int} {tgt : Nat} (hdg : decode cc pc = .ok (.if_icmp .lt off, 3)) (ht : (pc : Int) + off = (tgt : Int)) (ha : -2147483648 ≤ a ∧ a < 2147483648) (hb9 : -2147483648 ≤ b ∧ b < 2147483648)
    (kt : a < b → W p l e R s m args below meth c H locs cells slots Q (F0 m tgt ls rest)) (kf : b ≤ a → W p l e R s m args below meth c H locs cells slots Q (F0 m (pc + 3) ls rest)) : W p l e R s m args below meth c H locs cells slots Q (F0 m pc ls (.int (jI b) :: .int (jI a) :: rest)) := by
  exact lv_icmp_lt hexec hb hdg ht (fun h => kt ((jI_lt ha hb9).mp h)) (fun h => kf (Int.not_lt.mp (fun q => h ((jI_lt ha hb9).mpr q))))
theorem jv_if_lt (hexec : p.tables.exec = Jvm.exec) (hb : c.code = cc) {off : Int} {tgt : Nat} (hdg : decode cc pc = .ok (.ifCond .lt off, 3)) (ht : (pc : Int) + off = (tgt : Int)) (ha : -2147483648 ≤ a ∧ a < 2147483648)
    (kt : a < 0 → W p l e R s m args below meth c H locs cells slots Q (F0 m tgt ls rest)) (kf : 0 ≤ a → W p l e R s m args below meth c H locs cells slots Q (F0 m (pc + 3) ls rest)) : W p l e R s m args below meth c H locs cells slots Q (F0 m pc ls (.int (jI a) :: rest)) := by
  have hb9 : (-2147483648 : Int) ≤ 0 ∧ (0 : Int) < 2147483648 := by decide
  exact lv_if_lt hexec hb hdg ht (fun h => kt ((jI_lt ha hb9).mp h)) (fun h => kf (Int.not_lt.mp (fun q => h ((jI_lt ha hb9).mpr q))))
theorem jv_icmp_ge (hexec : p.tables.exec = Jvm.exec) (hb : c.code = cc) {off : Int} {tgt : Nat} (hdg : decode cc pc = .ok (.if_icmp .ge off, 3)) (ht : (pc : Int) + off = (tgt : Int)) (ha : -2147483648 ≤ a ∧ a < 2147483648) (hb9 : -2147483648 ≤ b ∧ b < 2147483648)
    (kt : b ≤ a → W p l e R s m args below meth c H locs cells slots Q (F0 m tgt ls rest)) (kf : a < b → W p l e R s m args below meth c H locs cells slots Q (F0 m (pc + 3) ls rest)) : W p l e R s m args below meth c H locs cells slots Q (F0 m pc ls (.int (jI b) :: .int (jI a) :: rest)) := by
  exact lv_icmp_ge hexec hb hdg ht (fun h => kt ((jI_le hb9 ha).mp h)) (fun h => kf (Int.not_le.mp (fun q => h ((jI_le hb9 ha).mpr q))))
theorem jv_if_ge (hexec : p.tables.exec = Jvm.exec) (hb : c.code = cc) {off : Int} {tgt : Nat} (hdg : decode cc pc = .ok (.ifCond .ge off, 3)) (ht : (pc : Int) + off = (tgt : Int)) (ha : -2147483648 ≤ a ∧ a < 2147483648)
    (kt : 0 ≤ a → W p l e R s m args below meth c H locs cells slots Q (F0 m tgt ls rest)) (kf : a < 0 → W p l e R s m args below meth c H locs cells slots Q (F0 m (pc + 3) ls rest)) : W p l e R s m args below meth c H locs cells slots Q (F0 m pc ls (.int (jI a) :: rest)) := by
  have hb9 : (-2147483648 : Int) ≤ 0 ∧ (0 : Int) < 2147483648 := by decide
  exact lv_if_ge hexec hb hdg ht (fun h => kt ((jI_le hb9 ha).mp h)) (fun h => kf (Int.not_le.mp (fun q => h ((jI_le hb9 ha).mpr q))))
theorem jv_icmp_gt (hexec : p.tables.exec = Jvm.exec) (hb : c.code = cc) {off : Int} {tgt : Nat} (hdg : decode cc pc = .ok (.if_icmp .gt off, 3)) (ht : (pc : Int) + off = (tgt : Int)) (ha : -2147483648 ≤ a ∧ a < 2147483648) (hb9 : -2147483648 ≤ b ∧ b < 2147483648)
    (kt : b < a → W p l e R s m args below meth c H locs cells slots Q (F0 m tgt ls rest)) (kf : a ≤ b → W p l e R s m args below meth c H locs cells slots Q (F0 m (pc + 3) ls rest)) : W p l e R s m args below meth c H locs cells slots Q (F0 m pc ls (.int (jI b) :: .int (jI a) :: rest)) := by
  exact lv_icmp_gt hexec hb hdg ht (fun h => kt ((jI_lt hb9 ha).mp h)) (fun h => kf (Int.not_lt.mp (fun q => h ((jI_lt hb9 ha).mpr q))))
theorem jv_if_gt (hexec : p.tables.exec = Jvm.exec) (hb : c.code = cc) {off : Int} {tgt : Nat} (hdg : decode cc pc = .ok (.ifCond .gt off, 3)) (ht : (pc : Int) + off = (tgt : Int)) (ha : -2147483648 ≤ a ∧ a < 2147483648)
    (kt : 0 < a → W p l e R s m args below meth c H locs cells slots Q (F0 m tgt ls rest)) (kf : a ≤ 0 → W p l e R s m args below meth c H locs cells slots Q (F0 m (pc + 3) ls rest)) : W p l e R s m args below meth c H locs cells slots Q (F0 m pc ls (.int (jI a) :: rest)) := by
  have hb9 : (-2147483648 : Int) ≤ 0 ∧ (0 : Int) < 2147483648 := by decide
  exact lv_if_gt hexec hb hdg ht (fun h => kt ((jI_lt hb9 ha).mp h)) (fun h => kf (Int.not_lt.mp (fun q => h ((jI_lt hb9 ha).mpr q))))
theorem jv_icmp_le (hexec : p.tables.exec = Jvm.exec) (hb : c.code = cc) {off : Int} {tgt : Nat} (hdg : decode cc pc = .ok (.if_icmp .le off, 3)) (ht : (pc : Int) + off = (tgt : Int)) (ha : -2147483648 ≤ a ∧ a < 2147483648) (hb9 : -2147483648 ≤ b ∧ b < 2147483648)
    (kt : a ≤ b → W p l e R s m args below meth c H locs cells slots Q (F0 m tgt ls rest)) (kf : b < a → W p l e R s m args below meth c H locs cells slots Q (F0 m (pc + 3) ls rest)) : W p l e R s m args below meth c H locs cells slots Q (F0 m pc ls (.int (jI b) :: .int (jI a) :: rest)) := by
  exact lv_icmp_le hexec hb hdg ht (fun h => kt ((jI_le ha hb9).mp h)) (fun h => kf (Int.not_le.mp (fun q => h ((jI_le ha hb9).mpr q))))
theorem jv_if_le (hexec : p.tables.exec = Jvm.exec) (hb : c.code = cc) {off : Int} {tgt : Nat} (hdg : decode cc pc = .ok (.ifCond .le off, 3)) (ht : (pc : Int) + off = (tgt : Int)) (ha : -2147483648 ≤ a ∧ a < 2147483648)
    (kt : a ≤ 0 → W p l e R s m args below meth c H locs cells slots Q (F0 m tgt ls rest)) (kf : 0 < a → W p l e R s m args below meth c H locs cells slots Q (F0 m (pc + 3) ls rest)) : W p l e R s m args below meth c H locs cells slots Q (F0 m pc ls (.int (jI a) :: rest)) := by
  have hb9 : (-2147483648 : Int) ≤ 0 ∧ (0 : Int) < 2147483648 := by decide
  exact lv_if_le hexec hb hdg ht (fun h => kt ((jI_le ha hb9).mp h)) (fun h => kf (Int.not_le.mp (fun q => h ((jI_le ha hb9).mpr q))))
theorem jv_icmp_eq (hexec : p.tables.exec = Jvm.exec) (hb : c.code = cc) {off : Int} {tgt : Nat} (hdg : decode cc pc = .ok (.if_icmp .eq off, 3)) (ht : (pc : Int) + off = (tgt : Int)) (ha : -2147483648 ≤ a ∧ a < 2147483648) (hb9 : -2147483648 ≤ b ∧ b < 2147483648)
    (kt : a = b → W p l e R s m args below meth c H locs cells slots Q (F0 m tgt ls rest)) (kf : a ≠ b → W p l e R s m args below meth c H locs cells slots Q (F0 m (pc + 3) ls rest)) : W p l e R s m args below meth c H locs cells slots Q (F0 m pc ls (.int (jI b) :: .int (jI a) :: rest)) := by
  exact lv_icmp_eq hexec hb hdg ht (fun h => kt ((jI_eq ha hb9).mp h)) (fun h => kf (fun q => h ((jI_eq ha hb9).mpr q)))
theorem jv_if_eq (hexec : p.tables.exec = Jvm.exec) (hb : c.code = cc) {off : Int} {tgt : Nat} (hdg : decode cc pc = .ok (.ifCond .eq off, 3)) (ht : (pc : Int) + off = (tgt : Int)) (ha : -2147483648 ≤ a ∧ a < 2147483648)
    (kt : a = 0 → W p l e R s m args below meth c H locs cells slots Q (F0 m tgt ls rest)) (kf : a ≠ 0 → W p l e R s m args below meth c H locs cells slots Q (F0 m (pc + 3) ls rest)) : W p l e R s m args below meth c H locs cells slots Q (F0 m pc ls (.int (jI a) :: rest)) := by
  have hb9 : (-2147483648 : Int) ≤ 0 ∧ (0 : Int) < 2147483648 := by decide
  exact lv_if_eq hexec hb hdg ht (fun h => kt ((jI_eq ha hb9).mp h)) (fun h => kf (fun q => h ((jI_eq ha hb9).mpr q)))
theorem jv_icmp_ne (hexec : p.tables.exec = Jvm.exec) (hb : c.code = cc) {off : Int} {tgt : Nat} (hdg : decode cc pc = .ok (.if_icmp .ne off, 3)) (ht : (pc : Int) + off = (tgt : Int)) (ha : -2147483648 ≤ a ∧ a < 2147483648) (hb9 : -2147483648 ≤ b ∧ b < 2147483648)
    (kt : a ≠ b → W p l e R s m args below meth c H locs cells slots Q (F0 m tgt ls rest)) (kf : a = b → W p l e R s m args below meth c H locs cells slots Q (F0 m (pc + 3) ls rest)) : W p l e R s m args below meth c H locs cells slots Q (F0 m pc ls (.int (jI b) :: .int (jI a) :: rest)) := by
  exact lv_icmp_ne hexec hb hdg ht (fun h => kt (fun q => h ((jI_eq ha hb9).mpr q))) (fun h => kf ((jI_eq ha hb9).mp h))
theorem jv_if_ne (hexec : p.tables.exec = Jvm.exec) (hb : c.code = cc) {off : Int} {tgt : Nat} (hdg : decode cc pc = .ok (.ifCond .ne off, 3)) (ht : (pc : Int) + off = (tgt : Int)) (ha : -2147483648 ≤ a ∧ a < 2147483648)
    (kt : a ≠ 0 → W p l e R s m args below meth c H locs cells slots Q (F0 m tgt ls rest)) (kf : a = 0 → W p l e R s m args below meth c H locs cells slots Q (F0 m (pc + 3) ls rest)) : W p l e R s m args below meth c H locs cells slots Q (F0 m pc ls (.int (jI a) :: rest)) := by
  have hb9 : (-2147483648 : Int) ≤ 0 ∧ (0 : Int) < 2147483648 := by decide
  exact lv_if_ne hexec hb hdg ht (fun h => kt (fun q => h ((jI_eq ha hb9).mpr q))) (fun h => kf ((jI_eq ha hb9).mp h))
theorem jv_lcmp_lt (hexec : p.tables.exec = Jvm.exec) (hb : c.code = cc) {off : Int} {tgt : Nat} (hd0 : decode cc pc = .ok (.lcmp, 1)) (hdg : decode cc (pc + 1) = .ok (.ifCond .lt off, 3)) (ht : ((pc + 1 : Nat) : Int) + off = (tgt : Int)) (ha : -9223372036854775808 ≤ a ∧ a < 9223372036854775808) (hb9 : -9223372036854775808 ≤ b ∧ b < 9223372036854775808)
    (kt : a < b → W p l e R s m args below meth c H locs cells slots Q (F0 m tgt ls rest)) (kf : b ≤ a → W p l e R s m args below meth c H locs cells slots Q (F0 m (pc + 4) ls rest)) : W p l e R s m args below meth c H locs cells slots Q (F0 m pc ls (.long (jL b) :: .long (jL a) :: rest)) := by
  exact W.lcmp hexec hb hd0 (lv_if_lt hexec hb hdg ht (fun h => kt (((lg_cmp_lt (jL a) (jL b)).trans (jL_lt ha hb9)).mp h)) (fun h => kf (Int.not_lt.mp (fun q => h (((lg_cmp_lt (jL a) (jL b)).trans (jL_lt ha hb9)).mpr q)))))
theorem jv_lcmp_ge (hexec : p.tables.exec = Jvm.exec) (hb : c.code = cc) {off : Int} {tgt : Nat} (hd0 : decode cc pc = .ok (.lcmp, 1)) (hdg : decode cc (pc + 1) = .ok (.ifCond .ge off, 3)) (ht : ((pc + 1 : Nat) : Int) + off = (tgt : Int)) (ha : -9223372036854775808 ≤ a ∧ a < 9223372036854775808) (hb9 : -9223372036854775808 ≤ b ∧ b < 9223372036854775808)
    (kt : b ≤ a → W p l e R s m args below meth c H locs cells slots Q (F0 m tgt ls rest)) (kf : a < b → W p l e R s m args below meth c H locs cells slots Q (F0 m (pc + 4) ls rest)) : W p l e R s m args below meth c H locs cells slots Q (F0 m pc ls (.long (jL b) :: .long (jL a) :: rest)) := by
  exact W.lcmp hexec hb hd0 (lv_if_ge hexec hb hdg ht (fun h => kt (((lg_cmp_ge (jL a) (jL b)).trans (jL_le hb9 ha)).mp h)) (fun h => kf (Int.not_le.mp (fun q => h (((lg_cmp_ge (jL a) (jL b)).trans (jL_le hb9 ha)).mpr q)))))
theorem jv_lcmp_gt (hexec : p.tables.exec = Jvm.exec) (hb : c.code = cc) {off : Int} {tgt : Nat} (hd0 : decode cc pc = .ok (.lcmp, 1)) (hdg : decode cc (pc + 1) = .ok (.ifCond .gt off, 3)) (ht : ((pc + 1 : Nat) : Int) + off = (tgt : Int)) (ha : -9223372036854775808 ≤ a ∧ a < 9223372036854775808) (hb9 : -9223372036854775808 ≤ b ∧ b < 9223372036854775808)
    (kt : b < a → W p l e R s m args below meth c H locs cells slots Q (F0 m tgt ls rest)) (kf : a ≤ b → W p l e R s m args below meth c H locs cells slots Q (F0 m (pc + 4) ls rest)) : W p l e R s m args below meth c H locs cells slots Q (F0 m pc ls (.long (jL b) :: .long (jL a) :: rest)) := by
  exact W.lcmp hexec hb hd0 (lv_if_gt hexec hb hdg ht (fun h => kt (((lg_cmp_gt (jL a) (jL b)).trans (jL_lt hb9 ha)).mp h)) (fun h => kf (Int.not_lt.mp (fun q => h (((lg_cmp_gt (jL a) (jL b)).trans (jL_lt hb9 ha)).mpr q)))))
theorem jv_lcmp_le (hexec : p.tables.exec = Jvm.exec) (hb : c.code = cc) {off : Int} {tgt : Nat} (hd0 : decode cc pc = .ok (.lcmp, 1)) (hdg : decode cc (pc + 1) = .ok (.ifCond .le off, 3)) (ht : ((pc + 1 : Nat) : Int) + off = (tgt : Int)) (ha : -9223372036854775808 ≤ a ∧ a < 9223372036854775808) (hb9 : -9223372036854775808 ≤ b ∧ b < 9223372036854775808)
    (kt : a ≤ b → W p l e R s m args below meth c H locs cells slots Q (F0 m tgt ls rest)) (kf : b < a → W p l e R s m args below meth c H locs cells slots Q (F0 m (pc + 4) ls rest)) : W p l e R s m args below meth c H locs cells slots Q (F0 m pc ls (.long (jL b) :: .long (jL a) :: rest)) := by
  exact W.lcmp hexec hb hd0 (lv_if_le hexec hb hdg ht (fun h => kt (((lg_cmp_le (jL a) (jL b)).trans (jL_le ha hb9)).mp h)) (fun h => kf (Int.not_le.mp (fun q => h (((lg_cmp_le (jL a) (jL b)).trans (jL_le ha hb9)).mpr q)))))
theorem jv_lcmp_eq (hexec : p.tables.exec = Jvm.exec) (hb : c.code = cc) {off : Int} {tgt : Nat} (hd0 : decode cc pc = .ok (.lcmp, 1)) (hdg : decode cc (pc + 1) = .ok (.ifCond .eq off, 3)) (ht : ((pc + 1 : Nat) : Int) + off = (tgt : Int)) (ha : -9223372036854775808 ≤ a ∧ a < 9223372036854775808) (hb9 : -9223372036854775808 ≤ b ∧ b < 9223372036854775808)
    (kt : a = b → W p l e R s m args below meth c H locs cells slots Q (F0 m tgt ls rest)) (kf : a ≠ b → W p l e R s m args below meth c H locs cells slots Q (F0 m (pc + 4) ls rest)) : W p l e R s m args below meth c H locs cells slots Q (F0 m pc ls (.long (jL b) :: .long (jL a) :: rest)) := by
  exact W.lcmp hexec hb hd0 (lv_if_eq hexec hb hdg ht (fun h => kt (((lg_cmp_eq (jL a) (jL b)).trans (jL_eq ha hb9)).mp h)) (fun h => kf (fun q => h (((lg_cmp_eq (jL a) (jL b)).trans (jL_eq ha hb9)).mpr q))))
theorem jv_lcmp_ne (hexec : p.tables.exec = Jvm.exec) (hb : c.code = cc) {off : Int} {tgt : Nat} (hd0 : decode cc pc = .ok (.lcmp, 1)) (hdg : decode cc (pc + 1) = .ok (.ifCond .ne off, 3)) (ht : ((pc + 1 : Nat) : Int) + off = (tgt : Int)) (ha : -9223372036854775808 ≤ a ∧ a < 9223372036854775808) (hb9 : -9223372036854775808 ≤ b ∧ b < 9223372036854775808)
    (kt : a ≠ b → W p l e R s m args below meth c H locs cells slots Q (F0 m tgt ls rest)) (kf : a = b → W p l e R s m args below meth c H locs cells slots Q (F0 m (pc + 4) ls rest)) : W p l e R s m args below meth c H locs cells slots Q (F0 m pc ls (.long (jL b) :: .long (jL a) :: rest)) := by
  exact W.lcmp hexec hb hd0 (lv_if_ne hexec hb hdg ht (fun h => kt (fun q => h (((lg_cmp_eq (jL a) (jL b)).trans (jL_eq ha hb9)).mpr q))) (fun h => kf (((lg_cmp_eq (jL a) (jL b)).trans (jL_eq ha hb9)).mp h)))
theorem jv_ldc {own : String} {index : Nat} {v : Int32} {k : Int} (hexec : p.tables.exec = Jvm.exec) (hb : c.code = cc) (hown : s.vm.findClass own = some m.cls) (hconst : (Jvm.Cond.constant own index v).before args s = true) (hv : v = jI k) (hdg : decode cc pc = .ok (.ldc index, 2))
    (kk : W p l e R s m args below meth c H locs cells slots Q (F0 m (pc + 2) ls (.int (jI k) :: rest))) : W p l e R s m args below meth c H locs cells slots Q (F0 m pc ls rest) := lv_ldc hexec hb hown hconst hdg (by rw [hv]; exact kk)
theorem jv_ldc2 {own : String} {index : Nat} {v : Int64} {k : Int} (hexec : p.tables.exec = Jvm.exec) (hb : c.code = cc) (hown : s.vm.findClass own = some m.cls) (hconst : (Jvm.Cond.constantLong own index v).before args s = true) (hv : v = jL k) (hdg : decode cc pc = .ok (.ldc2_w index, 3))
    (kk : W p l e R s m args below meth c H locs cells slots Q (F0 m (pc + 3) ls (.long (jL k) :: rest))) : W p l e R s m args below meth c H locs cells slots Q (F0 m pc ls rest) := lv_ldc2 hexec hb hown hconst hdg (by rw [hv]; exact kk)
theorem jv_aload_n {k : Fin 4} {i : Nat} {o : Option Nat} (hexec : p.tables.exec = Jvm.exec) (hb : c.code = cc) (hdg : decode cc pc = .ok (.aload_n k, 1)) (hi : (k : Nat) = i) (hl : ls[i]? = some (.val (va_rf o)))
    (kk : W p l e R s m args below meth c H locs cells slots Q (F0 m (pc + 1) ls (va_rf o :: rest))) : W p l e R s m args below meth c H locs cells slots Q (F0 m pc ls rest) := by
  cases o with
  | none => exact lv_aload_nN hexec hb hdg hi hl kk
  | some x => exact lv_aload_n hexec hb hdg hi hl kk
theorem jv_aload {i : Nat} {o : Option Nat} (hexec : p.tables.exec = Jvm.exec) (hb : c.code = cc) (hdg : decode cc pc = .ok (.aload i, 2)) (hl : ls[i]? = some (.val (va_rf o)))
    (kk : W p l e R s m args below meth c H locs cells slots Q (F0 m (pc + 2) ls (va_rf o :: rest))) : W p l e R s m args below meth c H locs cells slots Q (F0 m pc ls rest) := by
  cases o with
  | none => exact lv_aloadN hexec hb hdg hl kk
  | some x => exact lv_aload hexec hb hdg hl kk
theorem jv_astore_n {k : Fin 4} {i nL : Nat} {o : Option Nat} {lv lv' : List (Nat × Value)} (hexec : p.tables.exec = Jvm.exec) (hb : c.code = cc) (hdg : decode cc pc = .ok (.astore_n k, 1)) (hi : (k : Nat) = i) (h : lv_has ls nL lv) (hn : i < nL) (hl : (i, va_rf o) :: lv.filter (fun q => !(q.1 == i) && !(q.1 + 1 == i && q.2.category == 2)) = lv')
    (kk : ∀ ls', lv_has ls' nL lv' → W p l e R s m args below meth c H locs cells slots Q (F0 m (pc + 1) ls' rest)) : W p l e R s m args below meth c H locs cells slots Q (F0 m pc ls (va_rf o :: rest)) := by
  cases o with
  | none => exact lv_astore_nN hexec hb hdg hi h hn hl kk
  | some x => exact lv_astore_n hexec hb hdg hi h hn hl kk
theorem jv_astore {i nL : Nat} {o : Option Nat} {lv lv' : List (Nat × Value)} (hexec : p.tables.exec = Jvm.exec) (hb : c.code = cc) (hdg : decode cc pc = .ok (.astore i, 2)) (h : lv_has ls nL lv) (hn : i < nL) (hl : (i, va_rf o) :: lv.filter (fun q => !(q.1 == i) && !(q.1 + 1 == i && q.2.category == 2)) = lv')
    (kk : ∀ ls', lv_has ls' nL lv' → W p l e R s m args below meth c H locs cells slots Q (F0 m (pc + 2) ls' rest)) : W p l e R s m args below meth c H locs cells slots Q (F0 m pc ls (va_rf o :: rest)) := by
  cases o with
  | none => exact lv_astoreN hexec hb hdg h hn hl kk
  | some x => exact lv_astore hexec hb hdg h hn hl kk
variable {D : va_G} {cl : List vw_C} {tys : List (ClassId × FieldType)} {x n : Nat} {cA : ClassId}
theorem jv_iald {i : Nat} {g : Nat → Int} (hexec : p.tables.exec = Jvm.exec) (hb : c.code = cc) (hK : va_K D cl tys s) (h : va_at D cl (x, .inl (cA, n, .inl (fun j => jI (g j)))) H) (t0 : Nat) (ht : tys[t0]? = some (cA, .int)) (ha : a = (i : Int)) (hi : i < n) (hn : n < 2147483648) (hdg : decode cc pc = .ok (.iaload, 1))
    (kk : W p l e R s m args below meth c H locs cells slots Q (F0 m (pc + 1) ls (.int (jI (g i)) :: rest))) : W p l e R s m args below meth c H locs cells slots Q (F0 m pc ls (.int (jI a) :: .ref x :: rest)) := by
  subst ha
  refine va_iald hexec hb hK (j_P1 h) 0 t0 rfl ht (jI_in hi hn) hdg ?_
  rw [jI_clampN (by omega)]
  exact kk
theorem jv_zald {i : Nat} {g : Nat → Bool} (hexec : p.tables.exec = Jvm.exec) (hb : c.code = cc) (hK : va_K D cl tys s) (h : va_at D cl (x, .inl (cA, n, .inl (fun j => jI (bI (g j))))) H) (t0 : Nat) (ht : tys[t0]? = some (cA, .boolean)) (ha : a = (i : Int)) (hi : i < n) (hn : n < 2147483648) (hdg : decode cc pc = .ok (.baload, 1))
    (kk : W p l e R s m args below meth c H locs cells slots Q (F0 m (pc + 1) ls (.int (jI (bI (g i))) :: rest))) : W p l e R s m args below meth c H locs cells slots Q (F0 m pc ls (.int (jI a) :: .ref x :: rest)) := by
  subst ha
  refine va_zald hexec hb hK (j_P1 h) 0 t0 rfl ht (jI_in hi hn) hdg ?_
  rw [jI_clampN (by omega)]
  exact kk
theorem jv_lald {i : Nat} {g : Nat → Int} (hexec : p.tables.exec = Jvm.exec) (hb : c.code = cc) (hK : va_K D cl tys s) (h : va_at D cl (x, .inl (cA, n, .inr (.inl (fun j => jL (g j))))) H) (t0 : Nat) (ht : tys[t0]? = some (cA, .long)) (ha : a = (i : Int)) (hi : i < n) (hn : n < 2147483648) (hdg : decode cc pc = .ok (.laload, 1))
    (kk : W p l e R s m args below meth c H locs cells slots Q (F0 m (pc + 1) ls (.long (jL (g i)) :: rest))) : W p l e R s m args below meth c H locs cells slots Q (F0 m pc ls (.int (jI a) :: .ref x :: rest)) := by
  subst ha
  refine va_lald hexec hb hK (j_P1 h) 0 t0 rfl ht (jI_in hi hn) hdg ?_
  rw [jI_clampN (by omega)]
  exact kk
theorem jv_aldq {i : Nat} {C : String} {g : Nat → Nat} (hexec : p.tables.exec = Jvm.exec) (hb : c.code = cc) (hK : va_K D cl tys s) (h : va_at D cl (x, .inl (cA, n, .inr (.inr (.inr (.inr (fun j => some (g j))))))) H) (t0 : Nat) (ht : tys[t0]? = some (cA, .object C)) (ha : a = (i : Int)) (hi : i < n) (hn : n < 2147483648) (hdg : decode cc pc = .ok (.aaload, 1))
    (kk : W p l e R s m args below meth c H locs cells slots Q (F0 m (pc + 1) ls (.ref (g i) :: rest))) : W p l e R s m args below meth c H locs cells slots Q (F0 m pc ls (.int (jI a) :: .ref x :: rest)) := by
  subst ha
  refine va_aldq hexec hb hK (j_P1 h) 0 t0 rfl ht (jI_in hi hn) hdg ?_
  rw [jI_clampN (by omega)]
  exact kk
end JV
/-! methods that read alone: the heap is the same behind them -/
def pu_Pc (av : List Value) (D : va_G) (cl : List vw_C) (tys : List (ClassId × FieldType)) (Pic : Heap → Prop) : Array Value → State → Prop := fun v U => v = av.toArray ∧ Pic U.heap ∧ va_K D cl tys U
def pu_Q (v : Option Value) : Array Value → State → Outcome → State → Prop := fun _ st o t => o = .returned v ∧ t.heap = st.heap
theorem pu_blind {av : List Value} {D : va_G} {cl : List vw_C} {tys : List (ClassId × FieldType)} {Pic : Heap → Prop} : FrameBlind (pu_Pc av D cl tys Pic) := fun a U g mk q => ⟨q.1, q.2.1, va_K.moved (u := U) (U := U.calling g mk a) (Vm.Alike.refl U.vm) q.2.2⟩
section PU
variable {p : Program} {l : Launch} {e : Env} {R : Room} {s : State} {m : MethodId} {args : Array Value} {below : List Frame} {meth : Method} {c : Code} {H : Heap} {locs : List Loc} {cells slots : Nat} {Q : State → Prop}
variable {cc : ByteArray} {pc : Nat} {ls : Array Slot} {rest st0 : List Value} {a : Array Value} {D : va_G} {cl : List vw_C} {tys : List (ClassId × FieldType)} {Pic : Heap → Prop}
theorem pu_preS {As : List Value} (hP : Pic H) (hK : va_K D cl tys s) : PreS s H (pu_Pc As D cl tys Pic) As := ⟨pu_blind, fun U hU hW => ⟨rfl, by rw [hU]; exact hP, va_K.moved hW.alike hK⟩⟩
theorem pu_preV {As fs : List Value} {b ci : Nat} {C : String} {T : u_T} {N : Nat} (hP : Pic H) (hK : va_K D cl tys s) (hc : cl[ci]? = some (C, T, N)) (he : va_at D cl (b, .inr (ci, fs)) H) : PreV s H C b (pu_Pc (.ref b :: As) D cl tys Pic) As :=
  ⟨pu_blind, va_recv hK (j_P1 he) hc (q0 := 0) rfl, fun U hU hW => ⟨rfl, by rw [hU]; exact hP, va_K.moved hW.alike hK⟩⟩
theorem pu_call {v : Option Value} (hr : va_Run p l e R s m args below meth c H locs cells slots 0 0 (F0 m pc ls st0) rest (pu_Q v a) (fun _ => False))
    (kk : W p l e R s m args below meth c H locs cells slots Q (F0 m (pc + 3) ls (v.toList ++ rest))) : W p l e R s m args below meth c H locs cells slots Q (F0 m pc ls st0) := by
  intro T hT X
  obtain ⟨v', st₀, t, T', L, h0, X', hL, e1, e2, ⟨hv, hh⟩, st⟩ := hr T hT X
  cases hv
  have hL0 : L = [] := by
    cases L with
    | nil => rfl
    | cons q L => exact (hL q List.mem_cons_self).elim
  subst hL0
  rw [List.append_nil] at X'
  obtain ⟨t2, a1, b1⟩ := kk T' (by rw [e1, hh, h0]) X'
  exact ⟨t2, st t2 a1, b1⟩
theorem pu_call1 {w : Value} (hr : va_Run p l e R s m args below meth c H locs cells slots 0 0 (F0 m pc ls st0) rest (pu_Q (some w) a) (fun _ => False))
    (kk : W p l e R s m args below meth c H locs cells slots Q (F0 m (pc + 3) ls (w :: rest))) : W p l e R s m args below meth c H locs cells slots Q (F0 m pc ls st0) := pu_call hr kk
theorem pu_iret {x y : Int} (hexec : p.tables.exec = Jvm.exec) (hb : c.code = cc) (hr : meth.sig.returnType = some .int) (hlocks : meth.locks = false) (hdg : decode cc pc = .ok (.ireturn, 1)) (hv : x = y) :
    W p l e R s m args below meth c s.heap [] 0 0 (MQ below (pu_Q (some (.int (jI y)))) args s 0 0 (fun _ => False)) (F0 m pc ls [.int (jI x)]) := by
  subst hv
  exact W.iret hexec hb hr (fun t ht _ => ⟨rfl, ht⟩) (fun q h => by cases h) hdg
theorem pu_lret {x y : Int} (hexec : p.tables.exec = Jvm.exec) (hb : c.code = cc) (hr : meth.sig.returnType = some .long) (hlocks : meth.locks = false) (hdg : decode cc pc = .ok (.lreturn, 1)) (hv : x = y) :
    W p l e R s m args below meth c s.heap [] 0 0 (MQ below (pu_Q (some (.long (jL y)))) args s 0 0 (fun _ => False)) (F0 m pc ls [.long (jL x)]) := by
  subst hv
  exact W.lret hexec hb hr (fun t ht _ => ⟨rfl, ht⟩) (fun q h => by cases h) hdg
theorem bI_narrow (b : Bool) : narrow .boolean (.int (jI (bI b))) = .int (jI (bI b)) := by cases b <;> decide
theorem pu_zret {x : Int} {y : Bool} (hexec : p.tables.exec = Jvm.exec) (hb : c.code = cc) (hr : meth.sig.returnType = some .boolean) (hlocks : meth.locks = false) (hdg : decode cc pc = .ok (.ireturn, 1)) (hv : x = bI y) :
    W p l e R s m args below meth c s.heap [] 0 0 (MQ below (pu_Q (some (.int (jI (bI y))))) args s 0 0 (fun _ => False)) (F0 m pc ls [.int (jI x)]) := by
  subst hv
  exact W.zret hexec hb hr (bI_narrow y) (fun t ht _ => ⟨rfl, ht⟩) (fun q h => by cases h) hdg
theorem pu_vret (hexec : p.tables.exec = Jvm.exec) (hb : c.code = cc) (hr : meth.sig.returnType = none) (hlocks : meth.locks = false) (hdg : decode cc pc = .ok (.return_, 1)) :
    W p l e R s m args below meth c s.heap [] 0 0 (MQ below (pu_Q none) args s 0 0 (fun _ => False)) (F0 m pc ls []) :=
  W.vret hexec hb hr (fun t ht _ => ⟨rfl, ht⟩) (fun q h => by cases h) hdg
theorem pu_aret {x y : Nat} {C : String} (hexec : p.tables.exec = Jvm.exec) (hb : c.code = cc) (hr : meth.sig.returnType = some (.object C)) (hlocks : meth.locks = false) (hdg : decode cc pc = .ok (.areturn, 1)) (hv : x = y) :
    W p l e R s m args below meth c s.heap [] 0 0 (MQ below (pu_Q (some (.ref y))) args s 0 0 (fun _ => False)) (F0 m pc ls [.ref x]) := by
  subst hv
  exact W.aret hexec hb hr (Or.inl ⟨C, rfl⟩) (Or.inr ⟨x, rfl⟩) (fun t ht _ => ⟨rfl, ht⟩) (fun q h => by cases h) hdg
end PU
/-- a loop: a measure that falls -/
theorem jw_loop {p : Program} {l : Launch} {e : Env} {R : Room} {s : State} {m : MethodId} {args : Array Value} {below : List Frame} {meth : Method} {c : Code} {cells slots : Nat} {Q : State → Prop} {pc : Nat} {H : Heap} {locs : List Loc} {X : Type} (mu : X → Nat) (Inv : X → Array Slot → Prop) (step : ∀ x ls, Inv x ls → (∀ y ls', Inv y ls' → mu y < mu x → W p l e R s m args below meth c H locs cells slots Q (F0 m pc ls' [])) → W p l e R s m args below meth c H locs cells slots Q (F0 m pc ls [])) (x : X) (ls : Array Slot) (h : Inv x ls) : W p l e R s m args below meth c H locs cells slots Q (F0 m pc ls []) := by
  have key : ∀ (n : Nat) (x : X) (ls : Array Slot), mu x < n → Inv x ls → W p l e R s m args below meth c H locs cells slots Q (F0 m pc ls []) := by
    intro n
    induction n with
    | zero => intro x ls h; exact absurd h (Nat.not_lt_zero _)
    | succ n ih => intro x ls hm hI; exact step x ls hI (fun y ls' hy hlt => ih y ls' (by omega) hy)
  exact key (mu x + 1) x ls (Nat.lt_succ_self _) h
/-- a loop that writes: heap and written places are part of its state -/
theorem jw_loop3 {p : Program} {l : Launch} {e : Env} {R : Room} {s : State} {m : MethodId} {args : Array Value} {below : List Frame} {meth : Method} {c : Code} {cells slots : Nat} {Q : State → Prop} {pc : Nat} {X : Type} (mu : X → Nat) (Inv : X → Heap → List Loc → Array Slot → Prop) (step : ∀ x H L ls, Inv x H L ls → (∀ y H' L' ls', Inv y H' L' ls' → mu y < mu x → W p l e R s m args below meth c H' L' cells slots Q (F0 m pc ls' [])) → W p l e R s m args below meth c H L cells slots Q (F0 m pc ls [])) (x : X) (H : Heap) (L : List Loc) (ls : Array Slot) (h : Inv x H L ls) : W p l e R s m args below meth c H L cells slots Q (F0 m pc ls []) := by
  have key : ∀ (n : Nat) (x : X) (H : Heap) (L : List Loc) (ls : Array Slot), mu x < n → Inv x H L ls → W p l e R s m args below meth c H L cells slots Q (F0 m pc ls []) := by
    intro n
    induction n with
    | zero => intro x H L ls h; exact absurd h (Nat.not_lt_zero _)
    | succ n ih => intro x H L ls hm hI; exact step x H L ls hI (fun y H' L' ls' hy hlt => ih y H' L' ls' (by omega) hy)
  exact key (mu x + 1) x H L ls (Nat.lt_succ_self _) h
/-! stores: what was there else stays -/
def jUp {α : Type} (f : Nat → α) (k : Nat) (v : α) : Nat → α := fun j => if j = k then v else f j
theorem jUp_s {α : Type} (f : Nat → α) (k : Nat) (v : α) : jUp f k v k = v := if_pos rfl
theorem jUp_n {α : Type} {f : Nat → α} {k j : Nat} {v : α} (h : j ≠ k) : jUp f k v j = f j := if_neg h
theorem jUp2_s {α : Type} (f : Nat → Nat → α) (i j : Nat) (v : α) : jUp f i (jUp (f i) j v) i j = v := by rw [jUp_s, jUp_s]
theorem jUp2_n {α : Type} {f : Nat → Nat → α} {i j i2 j2 : Nat} {v : α} (h : i2 ≠ i ∨ j2 ≠ j) : jUp f i (jUp (f i) j v) i2 j2 = f i2 j2 := by
  by_cases hi : i2 = i
  · subst hi
    rw [jUp_s]
    rcases h with h | h
    · exact absurd rfl h
    · exact jUp_n h
  · rw [jUp_n hi]
theorem jUp_two {α : Type} {f : Nat → Nat → α} {i j k : Nat} {v : α} (h : k ≠ j → f i k = v) : jUp f i (jUp (f i) j v) i k = v := by
  rw [jUp_s]
  by_cases hk : k = j
  · subst hk; exact jUp_s _ _ _
  · rw [jUp_n hk]; exact h hk
section JST
variable {p : Program} {l : Launch} {e : Env} {R : Room} {s : State} {m : MethodId} {args : Array Value} {below : List Frame} {meth : Method} {c : Code} {H : Heap} {locs : List Loc} {cells slots : Nat} {Q : State → Prop}
variable {cc : ByteArray} {pc : Nat} {ls : Array Slot} {rest : List Value} {a y : Int} {D : va_G} {cl : List vw_C} {tys : List (ClassId × FieldType)} {x n i : Nat} {cA : ClassId}
theorem jv_iast {gg : Nat → Int} (hexec : p.tables.exec = Jvm.exec) (hb : c.code = cc) (hK : va_K D cl tys s) (h : va_at D cl (x, .inl (cA, n, .inl (fun j => jI (gg j)))) H) (t0 : Nat) (ht : tys[t0]? = some (cA, .int)) (ha : a = (i : Int)) (hi : i < n) (hn : n < 2147483648) (hdg : decode cc pc = .ok (.iastore, 1))
    (kk : ∀ (H1 : Heap) (f : Nat), va_at D cl (x, .inl (cA, n, .inl (fun j => jI (jUp gg i y j)))) H1 → H1.size = H.size → (∀ q, q ≠ x → H1[q]? = H[q]?) → W p l e R s m args below meth c H1 (locs ++ [⟨x, f⟩]) cells slots Q (F0 m (pc + 1) ls rest)) :
    W p l e R s m args below meth c H locs cells slots Q (F0 m pc ls (.int (jI y) :: .int (jI a) :: .ref x :: rest)) := by
  subst ha
  have hin := jI_in hi hn
  refine W.iast hexec hb h ((hK.2 t0 _ ht).1 n (fun j => .int (jI (gg j)))) (fun q => by cases q) (by show ¬ (_ ∨ (arrV _ _ _).slots.size ≤ _); rw [arrV_size]; exact hin) rfl rfl hdg fun H1 e z oq => ?_
  refine kk H1 _ ?_ z oq
  show H1[x]? = some (vp_cell _ _)
  rw [e, vp_cell_i, vp_cell_i, arrV_store, jI_clampN (by omega)]
  congr 2
  funext q
  by_cases hq : q = i
  · subst hq
    simp [updV, jUp]
  · simp [updV, jUp, hq]
theorem jv_zast {gg : Nat → Bool} {w : Bool} (hexec : p.tables.exec = Jvm.exec) (hb : c.code = cc) (hK : va_K D cl tys s) (h : va_at D cl (x, .inl (cA, n, .inl (fun j => jI (bI (gg j))))) H) (t0 : Nat) (ht : tys[t0]? = some (cA, .boolean)) (ha : a = (i : Int)) (hi : i < n) (hn : n < 2147483648) (hw : y = bI w) (hdg : decode cc pc = .ok (.bastore, 1))
    (kk : ∀ (H1 : Heap) (f : Nat), va_at D cl (x, .inl (cA, n, .inl (fun j => jI (bI (jUp gg i w j))))) H1 → H1.size = H.size → (∀ q, q ≠ x → H1[q]? = H[q]?) → W p l e R s m args below meth c H1 (locs ++ [⟨x, f⟩]) cells slots Q (F0 m (pc + 1) ls rest)) :
    W p l e R s m args below meth c H locs cells slots Q (F0 m pc ls (.int (jI y) :: .int (jI a) :: .ref x :: rest)) := by
  subst ha
  subst hw
  have hin := jI_in hi hn
  refine W.zast hexec hb h ((hK.2 t0 _ ht).1 n (fun j => .int (jI (bI (gg j))))) (fun q => by cases q) (by show ¬ (_ ∨ (arrV _ _ _).slots.size ≤ _); rw [arrV_size]; exact hin) rfl rfl hdg fun H1 e z oq => ?_
  refine kk H1 _ ?_ z oq
  show H1[x]? = some (vp_cell _ _)
  rw [e, vp_cell_i, vp_cell_i, arrV_store, jI_clampN (by omega), bI_narrow]
  congr 2
  funext q
  by_cases hq : q = i
  · subst hq
    simp [updV, jUp]
  · simp [updV, jUp, hq]
theorem jv_last {gg : Nat → Int} (hexec : p.tables.exec = Jvm.exec) (hb : c.code = cc) (hK : va_K D cl tys s) (h : va_at D cl (x, .inl (cA, n, .inr (.inl (fun j => jL (gg j))))) H) (t0 : Nat) (ht : tys[t0]? = some (cA, .long)) (ha : a = (i : Int)) (hi : i < n) (hn : n < 2147483648) (hdg : decode cc pc = .ok (.lastore, 1))
    (kk : ∀ (H1 : Heap) (f : Nat), va_at D cl (x, .inl (cA, n, .inr (.inl (fun j => jL (jUp gg i y j))))) H1 → H1.size = H.size → (∀ q, q ≠ x → H1[q]? = H[q]?) → W p l e R s m args below meth c H1 (locs ++ [⟨x, f⟩]) cells slots Q (F0 m (pc + 1) ls rest)) :
    W p l e R s m args below meth c H locs cells slots Q (F0 m pc ls (.long (jL y) :: .int (jI a) :: .ref x :: rest)) := by
  subst ha
  have hin := jI_in hi hn
  refine W.last hexec hb h ((hK.2 t0 _ ht).1 n (fun j => .long (jL (gg j)))) (fun q => by cases q) (by show ¬ (_ ∨ (arrV _ _ _).slots.size ≤ _); rw [arrV_size]; exact hin) rfl rfl hdg fun H1 e z oq => ?_
  refine kk H1 _ ?_ z oq
  show H1[x]? = some (vp_cell _ _)
  rw [e, vp_cell_l, vp_cell_l, arrV_store, jI_clampN (by omega)]
  congr 2
  funext q
  by_cases hq : q = i
  · subst hq
    simp [updV, jUp]
  · simp [updV, jUp, hq]
theorem jv_put {own ref C : String} {T : u_T} {N ci index : Nat} {Ts : List Cond} (hexec : p.tables.exec = Jvm.exec) (hb : c.code = cc) (hts : ∀ w ∈ Ts, w.before args s = true) (hin : ∀ w ∈ u_ws C T N, w ∈ Ts) (ty0 : Nat → FieldType) (hty : ∀ k, k < N → parseFieldDescriptor (T k).2.2.1 = some (ty0 k)) (hnm : ∀ a, a < N → ∀ b, b < N → a ≠ b → (T a).2.1 ≠ (T b).2.1)
    (hown : s.vm.findClass own = some m.cls) (hK : va_K D cl tys s) {fs : List Value} (he : va_at D cl (x, .inr (ci, fs)) H) (hc : cl[ci]? = some (C, T, N)) (k : Nat) (hk : k < N) (hlink : (Cond.fieldLink own index ref (T k).2.1 (T k).2.2.1).before args s = true) (hsame : ∀ z, s.fieldFound? (T k).1 (T k).2.1 (T k).2.2.1 = some z → s.fieldFound? ref (T k).2.1 (T k).2.2.1 = some z) (hfin : (T k).2.2.2 = false)
    {ty : FieldType} {v : Value} (hd : parseFieldDescriptor (T k).2.2.1 = some ty) (hn : narrow ty v = v) (hfit : fits ty v = true) (hl : k < fs.length) (hdg : decode cc pc = .ok (.putfield index, 3))
    (kk : ∀ (H1 : Heap) (f : Nat), va_at D cl (x, .inr (ci, fs.set k v)) H1 → H1.size = H.size → (∀ q, q ≠ x → H1[q]? = H[q]?) → W p l e R s m args below meth c H1 (locs ++ [⟨x, f⟩]) cells slots Q (F0 m (pc + 3) ls rest)) :
    W p l e R s m args below meth c H locs cells slots Q (F0 m pc ls (v :: .ref x :: rest)) := by
  have hap := va_apart (own := own) hts hin ty0 hty hnm hK hc
  obtain ⟨r, h1, cell, q1, q2, q3, q4⟩ := he
  have hr : r = (C, T, N) := Option.some.inj (h1.symm.trans hc)
  subst hr
  obtain ⟨hS, hfc, kC, hkC, hkind⟩ := hK.1 ci _ hc
  obtain ⟨cf, kf, fi, f, hi, hsl⟩ := hS k hk
  have hlay := hts _ (hin _ (u_in_lay hk))
  unfold u_lay at hlay
  rw [if_neg (by rw [hfin]; decide)] at hlay
  have hst := (u_facts hfc hkC (u_lays hts hin hk) hi).1
  have h6 := u_store hfc hkC hkind hlay hi hd hn hfit
  refine W.putK hexec hb (f := f) ⟨hown, hlink, ⟨_, _, _, hsame _ hi⟩, hst⟩ (by rw [q2]; exact h6) q1 q3 (by rw [hsl]; exact k2_hasslot (q4 k hk)) rfl rfl hdg fun H' e1 e2 e3 => ?_
  rw [hsl] at e1
  exact kk H' _ ⟨_, hc, t_OB.to (V := updV (vp_V fs) k v) ⟨_, e1, q2, q3, t_set q4 hap hk v⟩ (fun j _ => vp_updV_set hl v j)⟩ e2 e3
end JST
