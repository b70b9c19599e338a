def RX0 : String := "BreakerOrders$Curve"
def TX0 : u_T := fun k => match k with
  | 0 => ("BreakerOrders$Curve", "place", "[I", true)
  | 1 => ("BreakerOrders$Curve", "least", "[I", true)
  | 2 => ("BreakerOrders$Curve", "most", "[I", true)
  | _ => ("BreakerOrders$Curve", "points", "I", false)
def tyX0 : Nat → FieldType := fun k => match k with
  | 0 => .array .int
  | 1 => .array .int
  | 2 => .array .int
  | _ => .int
theorem nmX0 : ∀ a, a < 4 → ∀ b, b < 4 → a ≠ b → (TX0 a).2.1 ≠ (TX0 b).2.1 := by decide +kernel
theorem tyX0_ok : ∀ k, k < 4 → parseFieldDescriptor (TX0 k).2.2.1 = some (tyX0 k) := by decide +kernel
def RX1 : String := "BreakerOrders$Device"
def TX1 : u_T := fun k => match k with
  | 0 => ("BreakerOrders$Device", "number", "I", true)
  | 1 => ("BreakerOrders$Device", "curve", "LBreakerOrders$Curve;", true)
  | 2 => ("BreakerOrders$Device", "settings", "[LBreakerOrders$Setting;", true)
  | 3 => ("BreakerOrders$Device", "ruledOut", "[Z", true)
  | 4 => ("BreakerOrders$Device", "firstFor", "[I", true)
  | 5 => ("BreakerOrders$Device", "above", "LBreakerOrders$Device;", false)
  | 6 => ("BreakerOrders$Device", "options", "I", false)
  | 7 => ("BreakerOrders$Device", "chosen", "I", false)
  | _ => ("BreakerOrders$Device", "impedance", "I", false)
def tyX1 : Nat → FieldType := fun k => match k with
  | 0 => .int
  | 1 => .object "BreakerOrders$Curve"
  | 2 => .array (.object "BreakerOrders$Setting")
  | 3 => .array .boolean
  | 4 => .array .int
  | 5 => .object "BreakerOrders$Device"
  | 6 => .int
  | 7 => .int
  | _ => .int
theorem nmX1 : ∀ a, a < 9 → ∀ b, b < 9 → a ≠ b → (TX1 a).2.1 ≠ (TX1 b).2.1 := by decide +kernel
theorem tyX1_ok : ∀ k, k < 9 → parseFieldDescriptor (TX1 k).2.2.1 = some (tyX1 k) := by decide +kernel
def RX2 : String := "BreakerOrders$Setting"
def TX2 : u_T := fun k => match k with
  | 0 => ("BreakerOrders$Setting", "curve", "LBreakerOrders$Curve;", true)
  | 1 => ("BreakerOrders$Setting", "scale", "I", false)
  | _ => ("BreakerOrders$Setting", "delay", "I", false)
def tyX2 : Nat → FieldType := fun k => match k with
  | 0 => .object "BreakerOrders$Curve"
  | 1 => .int
  | _ => .int
theorem nmX2 : ∀ a, a < 3 → ∀ b, b < 3 → a ≠ b → (TX2 a).2.1 ≠ (TX2 b).2.1 := by decide +kernel
theorem tyX2_ok : ∀ k, k < 3 → parseFieldDescriptor (TX2 k).2.2.1 = some (tyX2 k) := by decide +kernel
def RX3 : String := "BreakerOrders"
def TX3 : u_T := fun k => match k with
  | 0 => ("BreakerOrders", "devices", "[LBreakerOrders$Device;", true)
  | 1 => ("BreakerOrders", "count", "I", false)
  | _ => ("BreakerOrders", "sourceVoltage", "I", false)
def tyX3 : Nat → FieldType := fun k => match k with
  | 0 => .array (.object "BreakerOrders$Device")
  | 1 => .int
  | _ => .int
theorem nmX3 : ∀ a, a < 3 → ∀ b, b < 3 → a ≠ b → (TX3 a).2.1 ≠ (TX3 b).2.1 := by decide +kernel
theorem tyX3_ok : ∀ k, k < 3 → parseFieldDescriptor (TX3 k).2.2.1 = some (tyX3 k) := by decide +kernel
def RX4 : String := "BreakerOrdersModel"
def TX4 : u_T := fun k => match k with
  | 0 => ("BreakerOrdersModel", "code", "I", false)
  | 1 => ("BreakerOrdersModel", "devices", "I", false)
  | 2 => ("BreakerOrdersModel", "uppers", "[I", true)
  | 3 => ("BreakerOrdersModel", "points", "[I", true)
  | 4 => ("BreakerOrdersModel", "places", "[I", true)
  | 5 => ("BreakerOrdersModel", "leasts", "[I", true)
  | 6 => ("BreakerOrdersModel", "mosts", "[I", true)
  | 7 => ("BreakerOrdersModel", "options", "[I", true)
  | 8 => ("BreakerOrdersModel", "scales", "[I", true)
  | 9 => ("BreakerOrdersModel", "delays", "[I", true)
  | 10 => ("BreakerOrdersModel", "chosen", "[I", true)
  | 11 => ("BreakerOrdersModel", "impedances", "[I", true)
  | 12 => ("BreakerOrdersModel", "voltage", "I", false)
  | 13 => ("BreakerOrdersModel", "above", "J", false)
  | 14 => ("BreakerOrdersModel", "below", "J", false)
  | 15 => ("BreakerOrdersModel", "fits", "[I", true)
  | _ => ("BreakerOrdersModel", "tried", "[I", true)
def tyX4 : Nat → FieldType := fun k => match k with
  | 0 => .int
  | 1 => .int
  | 2 => .array .int
  | 3 => .array .int
  | 4 => .array .int
  | 5 => .array .int
  | 6 => .array .int
  | 7 => .array .int
  | 8 => .array .int
  | 9 => .array .int
  | 10 => .array .int
  | 11 => .array .int
  | 12 => .int
  | 13 => .long
  | 14 => .long
  | 15 => .array .int
  | _ => .array .int
theorem nmX4 : ∀ a, a < 17 → ∀ b, b < 17 → a ≠ b → (TX4 a).2.1 ≠ (TX4 b).2.1 := by decide +kernel
theorem tyX4_ok : ∀ k, k < 17 → parseFieldDescriptor (TX4 k).2.2.1 = some (tyX4 k) := by decide +kernel
def RL : String := "BreakerOrdersLaw"
abbrev vwCl : List vw_C := [(RX0, TX0, 4), (RX1, TX1, 9), (RX2, TX2, 3), (RX3, TX3, 3), (RX4, TX4, 17)]
/-- the words that last, one list for all methods -/
def gAll : List Cond := lw_tbl.filter goodWord
theorem g_mem {w : Cond} (i : Nat) (h : lw_tbl[i]? = some w) (hg : goodWord w = true) : w ∈ gAll := List.mem_filter.mpr ⟨List.mem_of_getElem? h, hg⟩
theorem g_good {w : Cond} (h : w ∈ gAll) : (w.onTables && w.keeps) = true ∨ ∃ ty, w = .arrayClass ty := good_of_word (List.mem_filter.mp h).2
theorem g_tbl {w : Cond} (h : w ∈ gAll) : w ∈ lw_tbl := (List.mem_filter.mp h).1
theorem gd_0 {Ts ws : List Cond} (hT : ∀ w ∈ gAll, w ∈ Ts) (h : ∀ w ∈ ws, w ∈ gAll) : GoodIn Ts ws := fun w hw => ⟨hT w (h w hw), g_good (h w hw)⟩
theorem gd_c {w0 : Cond} : ∀ w ∈ gAll, w ∈ w0 :: gAll := fun _ h => List.mem_cons_of_mem _ h
theorem gd_k {w0 : Cond} (h0 : w0 ∈ gAll) : ∀ w ∈ w0 :: gAll, w ∈ gAll := fun _ h => (List.mem_cons.mp h).elim (fun e => by rw [e]; exact h0) id
theorem gd_V {w0 wc : Cond} {own C : String} {idx : Nat} {y : MethodName} (h1 : Cond.methodLink own idx y ∈ gAll) (h2 : Cond.instanceMethod y ∈ gAll) (h3 : Cond.selects C y y ∈ gAll) (h4 : Cond.initialized C ∈ gAll) (h5 : wc ∈ gAll) : GoodIn (w0 :: gAll) (wsV own idx C y (wc :: gAll)) := gd_0 gd_c (fun w hw => by
  unfold wsV at hw
  rcases List.mem_append.mp hw with h | h
  · simp only [List.mem_cons, List.not_mem_nil, or_false] at h
    rcases h with rfl | rfl | rfl | rfl
    · exact h1
    · exact h2
    · exact h3
    · exact h4
  · exact gd_k h5 w h)
theorem gd_S {w0 wc : Cond} {own : String} {idx : Nat} {y : MethodName} (h1 : Cond.methodLink own idx y ∈ gAll) (h2 : Cond.static y ∈ gAll) (h4 : Cond.initialized own ∈ gAll) (h5 : wc ∈ gAll) : GoodIn (w0 :: gAll) (wsS own idx y (wc :: gAll)) := gd_0 gd_c (fun w hw => by
  unfold wsS at hw
  rcases List.mem_append.mp hw with h | h
  · simp only [List.mem_cons, List.not_mem_nil, or_false] at h
    rcases h with rfl | rfl | rfl
    · exact h1
    · exact h2
    · exact h4
  · exact gd_k h5 w h)
theorem uw_X0 : ∀ w ∈ u_ws RX0 TX0 4, w ∈ gAll := by decide +kernel
theorem uw_X1 : ∀ w ∈ u_ws RX1 TX1 9, w ∈ gAll := by decide +kernel
theorem uw_X2 : ∀ w ∈ u_ws RX2 TX2 3, w ∈ gAll := by decide +kernel
theorem uw_X3 : ∀ w ∈ u_ws RX3 TX3 3, w ∈ gAll := by decide +kernel
theorem uw_X4 : ∀ w ∈ u_ws RX4 TX4 17, w ∈ gAll := by decide +kernel
abbrev cX3_init : ByteArray := prog_1_method_1_code
def yX3_init : MethodName := ⟨RX3, "<init>", "()V"⟩
def wX3_init : Cond := .code yX3_init cX3_init 2 none
def wsX3_init : List Cond := wX3_init :: gAll
set_option maxRecDepth 20000 in
theorem kcX3_init : wX3_init ∈ gAll := g_mem 27 rfl rfl
abbrev cX1_init : ByteArray := prog_3_method_1_code
def yX1_init : MethodName := ⟨RX1, "<init>", "(I)V"⟩
def wX1_init : Cond := .code yX1_init cX1_init 3 none
def wsX1_init : List Cond := wX1_init :: gAll
set_option maxRecDepth 20000 in
theorem kcX1_init : wX1_init ∈ gAll := g_mem 36 rfl rfl
abbrev cX0_init : ByteArray := prog_2_method_1_code
def yX0_init : MethodName := ⟨RX0, "<init>", "()V"⟩
def wX0_init : Cond := .code yX0_init cX0_init 1 none
def wsX0_init : List Cond := wX0_init :: gAll
set_option maxRecDepth 20000 in
theorem kcX0_init : wX0_init ∈ gAll := g_mem 42 rfl rfl
abbrev cX2_init : ByteArray := prog_4_method_1_code
def yX2_init : MethodName := ⟨RX2, "<init>", "(LBreakerOrders$Curve;)V"⟩
def wX2_init : Cond := .code yX2_init cX2_init 2 none
def wsX2_init : List Cond := wX2_init :: gAll
set_option maxRecDepth 20000 in
theorem kcX2_init : wX2_init ∈ gAll := g_mem 69 rfl rfl
abbrev cL_device : ByteArray := method_3_code
def yL_device : MethodName := ⟨RL, "device", "(LBreakerOrders;I[J)I"⟩
def wL_device : Cond := .codeWith yL_device cL_device 4 (some .int) [(0, 9, 12, 13), (0, 9, 15, 15)]
def wsL_device : List Cond := wL_device :: gAll
set_option maxRecDepth 20000 in
theorem kcL_device : wL_device ∈ gAll := g_mem 133 rfl rfl
abbrev cX3_device : ByteArray := prog_1_method_2_code
def yX3_device : MethodName := ⟨RX3, "device", "(I)I"⟩
def wX3_device : Cond := .code yX3_device cX3_device 4 (some .int)
def wsX3_device : List Cond := wX3_device :: gAll
set_option maxRecDepth 20000 in
theorem kcX3_device : wX3_device ∈ gAll := g_mem 139 rfl rfl
abbrev cX3_known : ByteArray := prog_1_method_16_code
def yX3_known : MethodName := ⟨RX3, "known", "(I)LBreakerOrders$Device;"⟩
def wX3_known : Cond := .code yX3_known cX3_known 2 (some (.object "BreakerOrders$Device"))
def wsX3_known : List Cond := wX3_known :: gAll
set_option maxRecDepth 20000 in
theorem kcX3_known : wX3_known ∈ gAll := g_mem 143 rfl rfl
abbrev cL_point : ByteArray := method_4_code
def yL_point : MethodName := ⟨RL, "point", "(LBreakerOrders;IIII[J)I"⟩
def wL_point : Cond := .codeWith yL_point cL_point 7 (some .int) [(0, 14, 17, 13), (0, 14, 21, 15)]
def wsL_point : List Cond := wL_point :: gAll
set_option maxRecDepth 20000 in
theorem kcL_point : wL_point ∈ gAll := g_mem 229 rfl rfl
abbrev cX3_point : ByteArray := prog_1_method_3_code
def yX3_point : MethodName := ⟨RX3, "point", "(IIII)I"⟩
def wX3_point : Cond := .code yX3_point cX3_point 6 (some .int)
def wsX3_point : List Cond := wX3_point :: gAll
set_option maxRecDepth 20000 in
theorem kcX3_point : wX3_point ∈ gAll := g_mem 233 rfl rfl
abbrev cX3_demandWithin : ByteArray := prog_1_method_17_code
def yX3_demandWithin : MethodName := ⟨RX3, "demandWithin", "(III)V"⟩
def wX3_demandWithin : Cond := .code yX3_demandWithin cX3_demandWithin 3 none
def wsX3_demandWithin : List Cond := wX3_demandWithin :: gAll
set_option maxRecDepth 20000 in
theorem kcX3_demandWithin : wX3_demandWithin ∈ gAll := g_mem 236 rfl rfl
abbrev cX0_add : ByteArray := prog_2_method_2_code
def yX0_add : MethodName := ⟨RX0, "add", "(III)V"⟩
def wX0_add : Cond := .code yX0_add cX0_add 4 none
def wsX0_add : List Cond := wX0_add :: gAll
set_option maxRecDepth 20000 in
theorem kcX0_add : wX0_add ∈ gAll := g_mem 244 rfl rfl
abbrev cL_option : ByteArray := method_5_code
def yL_option : MethodName := ⟨RL, "option", "(LBreakerOrders;III[J)I"⟩
def wL_option : Cond := .codeWith yL_option cL_option 6 (some .int) [(0, 12, 15, 13), (0, 12, 19, 15)]
def wsL_option : List Cond := wL_option :: gAll
set_option maxRecDepth 20000 in
theorem kcL_option : wL_option ∈ gAll := g_mem 247 rfl rfl
abbrev cX3_option : ByteArray := prog_1_method_4_code
def yX3_option : MethodName := ⟨RX3, "option", "(III)I"⟩
def wX3_option : Cond := .code yX3_option cX3_option 6 (some .int)
def wsX3_option : List Cond := wX3_option :: gAll
set_option maxRecDepth 20000 in
theorem kcX3_option : wX3_option ∈ gAll := g_mem 251 rfl rfl
abbrev cL_choose : ByteArray := method_6_code
def yL_choose : MethodName := ⟨RL, "choose", "(LBreakerOrders;II[J)I"⟩
def wL_choose : Cond := .codeWith yL_choose cL_choose 5 (some .int) [(0, 10, 13, 13)]
def wsL_choose : List Cond := wL_choose :: gAll
set_option maxRecDepth 20000 in
theorem kcL_choose : wL_choose ∈ gAll := g_mem 255 rfl rfl
abbrev cX3_choose : ByteArray := prog_1_method_5_code
def yX3_choose : MethodName := ⟨RX3, "choose", "(II)I"⟩
def wX3_choose : Cond := .code yX3_choose cX3_choose 5 (some .int)
def wsX3_choose : List Cond := wX3_choose :: gAll
set_option maxRecDepth 20000 in
theorem kcX3_choose : wX3_choose ∈ gAll := g_mem 259 rfl rfl
abbrev cL_time : ByteArray := method_7_code
def yL_time : MethodName := ⟨RL, "time", "(LBreakerOrders;IIZ[J)I"⟩
def wL_time : Cond := .codeWith yL_time cL_time 6 (some .int) [(0, 12, 15, 13)]
def wsL_time : List Cond := wL_time :: gAll
set_option maxRecDepth 20000 in
theorem kcL_time : wL_time ∈ gAll := g_mem 262 rfl rfl
abbrev cX3_time : ByteArray := prog_1_method_6_code
def yX3_time : MethodName := ⟨RX3, "time", "(IIZ)I"⟩
def wX3_time : Cond := .code yX3_time cX3_time 6 (some .int)
def wsX3_time : List Cond := wX3_time :: gAll
set_option maxRecDepth 20000 in
theorem kcX3_time : wX3_time ∈ gAll := g_mem 266 rfl rfl
abbrev cX1_chosenSetting : ByteArray := prog_3_method_2_code
def yX1_chosenSetting : MethodName := ⟨RX1, "chosenSetting", "()LBreakerOrders$Setting;"⟩
def wX1_chosenSetting : Cond := .code yX1_chosenSetting cX1_chosenSetting 1 (some (.object "BreakerOrders$Setting"))
def wsX1_chosenSetting : List Cond := wX1_chosenSetting :: gAll
set_option maxRecDepth 20000 in
theorem kcX1_chosenSetting : wX1_chosenSetting ∈ gAll := g_mem 270 rfl rfl
abbrev cX2_pieceAt : ByteArray := prog_4_method_2_code
def yX2_pieceAt : MethodName := ⟨RX2, "pieceAt", "(I)I"⟩
def wX2_pieceAt : Cond := .code yX2_pieceAt cX2_pieceAt 4 (some .int)
def wsX2_pieceAt : List Cond := wX2_pieceAt :: gAll
set_option maxRecDepth 20000 in
theorem kcX2_pieceAt : wX2_pieceAt ∈ gAll := g_mem 274 rfl rfl
abbrev cX2_wholeTime : ByteArray := prog_4_method_6_code
def yX2_wholeTime : MethodName := ⟨RX2, "wholeTime", "(IIZ)I"⟩
def wX2_wholeTime : Cond := .code yX2_wholeTime cX2_wholeTime 6 (some .int)
def wsX2_wholeTime : List Cond := wX2_wholeTime :: gAll
set_option maxRecDepth 20000 in
theorem kcX2_wholeTime : wX2_wholeTime ∈ gAll := g_mem 278 rfl rfl
abbrev cX2_partsOn : ByteArray := prog_4_method_4_code
def yX2_partsOn : MethodName := ⟨RX2, "partsOn", "(I)J"⟩
def wX2_partsOn : Cond := .code yX2_partsOn cX2_partsOn 2 (some .long)
def wsX2_partsOn : List Cond := wX2_partsOn :: gAll
set_option maxRecDepth 20000 in
theorem kcX2_partsOn : wX2_partsOn ∈ gAll := g_mem 282 rfl rfl
abbrev cX2_timeInParts : ByteArray := prog_4_method_5_code
def yX2_timeInParts : MethodName := ⟨RX2, "timeInParts", "(IJIZ)J"⟩
def wX2_timeInParts : Cond := .code yX2_timeInParts cX2_timeInParts 11 (some .long)
def wsX2_timeInParts : List Cond := wX2_timeInParts :: gAll
set_option maxRecDepth 20000 in
theorem kcX2_timeInParts : wX2_timeInParts ∈ gAll := g_mem 286 rfl rfl
abbrev cL_opensFrom : ByteArray := method_8_code
def yL_opensFrom : MethodName := ⟨RL, "opensFrom", "(LBreakerOrders;I[J)I"⟩
def wL_opensFrom : Cond := .codeWith yL_opensFrom cL_opensFrom 4 (some .int) [(0, 9, 12, 13)]
def wsL_opensFrom : List Cond := wL_opensFrom :: gAll
set_option maxRecDepth 20000 in
theorem kcL_opensFrom : wL_opensFrom ∈ gAll := g_mem 289 rfl rfl
abbrev cX3_opensFrom : ByteArray := prog_1_method_7_code
def yX3_opensFrom : MethodName := ⟨RX3, "opensFrom", "(I)I"⟩
def wX3_opensFrom : Cond := .code yX3_opensFrom cX3_opensFrom 3 (some .int)
def wsX3_opensFrom : List Cond := wX3_opensFrom :: gAll
set_option maxRecDepth 20000 in
theorem kcX3_opensFrom : wX3_opensFrom ∈ gAll := g_mem 293 rfl rfl
abbrev cX2_startBehind : ByteArray := prog_4_method_3_code
def yX2_startBehind : MethodName := ⟨RX2, "startBehind", "(I)I"⟩
def wX2_startBehind : Cond := .code yX2_startBehind cX2_startBehind 4 (some .int)
def wsX2_startBehind : List Cond := wX2_startBehind :: gAll
set_option maxRecDepth 20000 in
theorem kcX2_startBehind : wX2_startBehind ∈ gAll := g_mem 297 rfl rfl
abbrev cL_order : ByteArray := method_9_code
def yL_order : MethodName := ⟨RL, "order", "(LBreakerOrders;III[J)I"⟩
def wL_order : Cond := .codeWith yL_order cL_order 6 (some .int) [(0, 12, 15, 13)]
def wsL_order : List Cond := wL_order :: gAll
set_option maxRecDepth 20000 in
theorem kcL_order : wL_order ∈ gAll := g_mem 303 rfl rfl
abbrev cX3_order : ByteArray := prog_1_method_8_code
def yX3_order : MethodName := ⟨RX3, "order", "(III)I"⟩
def wX3_order : Cond := .code yX3_order cX3_order 4 (some .int)
def wsX3_order : List Cond := wX3_order :: gAll
set_option maxRecDepth 20000 in
theorem kcX3_order : wX3_order ∈ gAll := g_mem 307 rfl rfl
abbrev cX3_demandPair : ByteArray := prog_1_method_18_code
def yX3_demandPair : MethodName := ⟨RX3, "demandPair", "(III)V"⟩
def wX3_demandPair : Cond := .code yX3_demandPair cX3_demandPair 3 none
def wsX3_demandPair : List Cond := wX3_demandPair :: gAll
set_option maxRecDepth 20000 in
theorem kcX3_demandPair : wX3_demandPair ∈ gAll := g_mem 310 rfl rfl
abbrev cX3_firstBroken : ByteArray := prog_1_method_19_code
def yX3_firstBroken : MethodName := ⟨RX3, "firstBroken", "(LBreakerOrders$Setting;LBreakerOrders$Setting;I)I"⟩
def wX3_firstBroken : Cond := .code yX3_firstBroken cX3_firstBroken 4 (some .int)
def wsX3_firstBroken : List Cond := wX3_firstBroken :: gAll
set_option maxRecDepth 20000 in
theorem kcX3_firstBroken : wX3_firstBroken ∈ gAll := g_mem 314 rfl rfl
abbrev cX3_firstBrokenStretch : ByteArray := prog_1_method_20_code
def yX3_firstBrokenStretch : MethodName := ⟨RX3, "firstBrokenStretch", "(LBreakerOrders$Setting;LBreakerOrders$Setting;I)I"⟩
def wX3_firstBrokenStretch : Cond := .code yX3_firstBrokenStretch cX3_firstBrokenStretch 6 (some .int)
def wsX3_firstBrokenStretch : List Cond := wX3_firstBrokenStretch :: gAll
set_option maxRecDepth 20000 in
theorem kcX3_firstBrokenStretch : wX3_firstBrokenStretch ∈ gAll := g_mem 317 rfl rfl
abbrev cX3_stretchEnd : ByteArray := prog_1_method_23_code
def yX3_stretchEnd : MethodName := ⟨RX3, "stretchEnd", "(LBreakerOrders$Setting;LBreakerOrders$Setting;I)I"⟩
def wX3_stretchEnd : Cond := .code yX3_stretchEnd cX3_stretchEnd 3 (some .int)
def wsX3_stretchEnd : List Cond := wX3_stretchEnd :: gAll
set_option maxRecDepth 20000 in
theorem kcX3_stretchEnd : wX3_stretchEnd ∈ gAll := g_mem 320 rfl rfl
abbrev cX3_isBrokenAt : ByteArray := prog_1_method_25_code
def yX3_isBrokenAt : MethodName := ⟨RX3, "isBrokenAt", "(LBreakerOrders$Setting;LBreakerOrders$Setting;II)Z"⟩
def wX3_isBrokenAt : Cond := .code yX3_isBrokenAt cX3_isBrokenAt 4 (some .boolean)
def wsX3_isBrokenAt : List Cond := wX3_isBrokenAt :: gAll
set_option maxRecDepth 20000 in
theorem kcX3_isBrokenAt : wX3_isBrokenAt ∈ gAll := g_mem 324 rfl rfl
abbrev cX2_isWithin : ByteArray := prog_4_method_7_code
def yX2_isWithin : MethodName := ⟨RX2, "isWithin", "(ZILBreakerOrders$Setting;ZI)Z"⟩
def wX2_isWithin : Cond := .code yX2_isWithin cX2_isWithin 16 (some .boolean)
def wsX2_isWithin : List Cond := wX2_isWithin :: gAll
set_option maxRecDepth 20000 in
theorem kcX2_isWithin : wX2_isWithin ∈ gAll := g_mem 328 rfl rfl
abbrev cX3_turnIn : ByteArray := prog_1_method_24_code
def yX3_turnIn : MethodName := ⟨RX3, "turnIn", "(LBreakerOrders$Setting;LBreakerOrders$Setting;III)I"⟩
def wX3_turnIn : Cond := .code yX3_turnIn cX3_turnIn 10 (some .int)
def wsX3_turnIn : List Cond := wX3_turnIn :: gAll
set_option maxRecDepth 20000 in
theorem kcX3_turnIn : wX3_turnIn ∈ gAll := g_mem 332 rfl rfl
abbrev cL_broken : ByteArray := method_10_code
def yL_broken : MethodName := ⟨RL, "broken", "(LBreakerOrders;III[J)I"⟩
def wL_broken : Cond := .codeWith yL_broken cL_broken 6 (some .int) [(0, 12, 15, 13)]
def wsL_broken : List Cond := wL_broken :: gAll
set_option maxRecDepth 20000 in
theorem kcL_broken : wL_broken ∈ gAll := g_mem 335 rfl rfl
abbrev cX3_broken : ByteArray := prog_1_method_9_code
def yX3_broken : MethodName := ⟨RX3, "broken", "(III)I"⟩
def wX3_broken : Cond := .code yX3_broken cX3_broken 4 (some .int)
def wsX3_broken : List Cond := wX3_broken :: gAll
set_option maxRecDepth 20000 in
theorem kcX3_broken : wX3_broken ∈ gAll := g_mem 339 rfl rfl
abbrev cX3_countBroken : ByteArray := prog_1_method_21_code
def yX3_countBroken : MethodName := ⟨RX3, "countBroken", "(LBreakerOrders$Setting;LBreakerOrders$Setting;I)I"⟩
def wX3_countBroken : Cond := .code yX3_countBroken cX3_countBroken 7 (some .int)
def wsX3_countBroken : List Cond := wX3_countBroken :: gAll
set_option maxRecDepth 20000 in
theorem kcX3_countBroken : wX3_countBroken ∈ gAll := g_mem 342 rfl rfl
abbrev cX3_countBrokenIn : ByteArray := prog_1_method_22_code
def yX3_countBrokenIn : MethodName := ⟨RX3, "countBrokenIn", "(LBreakerOrders$Setting;LBreakerOrders$Setting;III)I"⟩
def wX3_countBrokenIn : Cond := .code yX3_countBrokenIn cX3_countBrokenIn 8 (some .int)
def wsX3_countBrokenIn : List Cond := wX3_countBrokenIn :: gAll
set_option maxRecDepth 20000 in
theorem kcX3_countBrokenIn : wX3_countBrokenIn ∈ gAll := g_mem 345 rfl rfl
abbrev cL_settle : ByteArray := method_11_code
def yL_settle : MethodName := ⟨RL, "settle", "(LBreakerOrders;I[J)I"⟩
def wL_settle : Cond := .codeWith yL_settle cL_settle 4 (some .int) [(0, 16, 19, 13)]
def wsL_settle : List Cond := wL_settle :: gAll
set_option maxRecDepth 20000 in
theorem kcL_settle : wL_settle ∈ gAll := g_mem 348 rfl rfl
abbrev cX3_settle : ByteArray := prog_1_method_10_code
def yX3_settle : MethodName := ⟨RX3, "settle", "(I)Z"⟩
def wX3_settle : Cond := .code yX3_settle cX3_settle 4 (some .boolean)
def wsX3_settle : List Cond := wX3_settle :: gAll
set_option maxRecDepth 20000 in
theorem kcX3_settle : wX3_settle ∈ gAll := g_mem 352 rfl rfl
abbrev cX1_forgetTries : ByteArray := prog_3_method_3_code
def yX1_forgetTries : MethodName := ⟨RX1, "forgetTries", "()V"⟩
def wX1_forgetTries : Cond := .code yX1_forgetTries cX1_forgetTries 2 none
def wsX1_forgetTries : List Cond := wX1_forgetTries :: gAll
set_option maxRecDepth 20000 in
theorem kcX1_forgetTries : wX1_forgetTries ∈ gAll := g_mem 356 rfl rfl
abbrev cX3_tryOptions : ByteArray := prog_1_method_26_code
def yX3_tryOptions : MethodName := ⟨RX3, "tryOptions", "(LBreakerOrders$Device;I)Z"⟩
def wX3_tryOptions : Cond := .code yX3_tryOptions cX3_tryOptions 4 (some .boolean)
def wsX3_tryOptions : List Cond := wX3_tryOptions :: gAll
set_option maxRecDepth 20000 in
theorem kcX3_tryOptions : wX3_tryOptions ∈ gAll := g_mem 359 rfl rfl
abbrev cX3_firstFitting : ByteArray := prog_1_method_27_code
def yX3_firstFitting : MethodName := ⟨RX3, "firstFitting", "(LBreakerOrders$Device;LBreakerOrders$Setting;I)I"⟩
def wX3_firstFitting : Cond := .code yX3_firstFitting cX3_firstFitting 4 (some .int)
def wsX3_firstFitting : List Cond := wX3_firstFitting :: gAll
set_option maxRecDepth 20000 in
theorem kcX3_firstFitting : wX3_firstFitting ∈ gAll := g_mem 362 rfl rfl
abbrev cL_chosen : ByteArray := method_12_code
def yL_chosen : MethodName := ⟨RL, "chosen", "(LBreakerOrders;I[J)I"⟩
def wL_chosen : Cond := .codeWith yL_chosen cL_chosen 4 (some .int) [(0, 9, 12, 13)]
def wsL_chosen : List Cond := wL_chosen :: gAll
set_option maxRecDepth 20000 in
theorem kcL_chosen : wL_chosen ∈ gAll := g_mem 365 rfl rfl
abbrev cX3_chosen : ByteArray := prog_1_method_11_code
def yX3_chosen : MethodName := ⟨RX3, "chosen", "(I)I"⟩
def wX3_chosen : Cond := .code yX3_chosen cX3_chosen 2 (some .int)
def wsX3_chosen : List Cond := wX3_chosen :: gAll
set_option maxRecDepth 20000 in
theorem kcX3_chosen : wX3_chosen ∈ gAll := g_mem 369 rfl rfl
abbrev cL_impedance : ByteArray := method_13_code
def yL_impedance : MethodName := ⟨RL, "impedance", "(LBreakerOrders;II[J)I"⟩
def wL_impedance : Cond := .codeWith yL_impedance cL_impedance 5 (some .int) [(0, 10, 13, 13)]
def wsL_impedance : List Cond := wL_impedance :: gAll
set_option maxRecDepth 20000 in
theorem kcL_impedance : wL_impedance ∈ gAll := g_mem 372 rfl rfl
abbrev cX3_impedance : ByteArray := prog_1_method_12_code
def yX3_impedance : MethodName := ⟨RX3, "impedance", "(II)I"⟩
def wX3_impedance : Cond := .code yX3_impedance cX3_impedance 5 (some .int)
def wsX3_impedance : List Cond := wX3_impedance :: gAll
set_option maxRecDepth 20000 in
theorem kcX3_impedance : wX3_impedance ∈ gAll := g_mem 376 rfl rfl
abbrev cL_voltage : ByteArray := method_14_code
def yL_voltage : MethodName := ⟨RL, "voltage", "(LBreakerOrders;I[J)I"⟩
def wL_voltage : Cond := .codeWith yL_voltage cL_voltage 4 (some .int) [(0, 9, 12, 13)]
def wsL_voltage : List Cond := wL_voltage :: gAll
set_option maxRecDepth 20000 in
theorem kcL_voltage : wL_voltage ∈ gAll := g_mem 379 rfl rfl
abbrev cX3_voltage : ByteArray := prog_1_method_13_code
def yX3_voltage : MethodName := ⟨RX3, "voltage", "(I)I"⟩
def wX3_voltage : Cond := .code yX3_voltage cX3_voltage 3 (some .int)
def wsX3_voltage : List Cond := wX3_voltage :: gAll
set_option maxRecDepth 20000 in
theorem kcX3_voltage : wX3_voltage ∈ gAll := g_mem 383 rfl rfl
abbrev cL_shortAt : ByteArray := method_15_code
def yL_shortAt : MethodName := ⟨RL, "shortAt", "(LBreakerOrders;I[J)I"⟩
def wL_shortAt : Cond := .codeWith yL_shortAt cL_shortAt 4 (some .int) [(0, 9, 12, 13)]
def wsL_shortAt : List Cond := wL_shortAt :: gAll
set_option maxRecDepth 20000 in
theorem kcL_shortAt : wL_shortAt ∈ gAll := g_mem 387 rfl rfl
abbrev cX3_shortAt : ByteArray := prog_1_method_14_code
def yX3_shortAt : MethodName := ⟨RX3, "shortAt", "(I)I"⟩
def wX3_shortAt : Cond := .code yX3_shortAt cX3_shortAt 2 (some .int)
def wsX3_shortAt : List Cond := wX3_shortAt :: gAll
set_option maxRecDepth 20000 in
theorem kcX3_shortAt : wX3_shortAt ∈ gAll := g_mem 391 rfl rfl
abbrev cX3_shortCurrent : ByteArray := prog_1_method_28_code
def yX3_shortCurrent : MethodName := ⟨RX3, "shortCurrent", "(LBreakerOrders$Device;)I"⟩
def wX3_shortCurrent : Cond := .code yX3_shortCurrent cX3_shortCurrent 5 (some .int)
def wsX3_shortCurrent : List Cond := wX3_shortCurrent :: gAll
set_option maxRecDepth 20000 in
theorem kcX3_shortCurrent : wX3_shortCurrent ∈ gAll := g_mem 395 rfl rfl
abbrev cL_opens : ByteArray := method_16_code
def yL_opens : MethodName := ⟨RL, "opens", "(LBreakerOrders;II[J)I"⟩
def wL_opens : Cond := .codeWith yL_opens cL_opens 5 (some .int) [(0, 10, 13, 13)]
def wsL_opens : List Cond := wL_opens :: gAll
set_option maxRecDepth 20000 in
theorem kcL_opens : wL_opens ∈ gAll := g_mem 403 rfl rfl
abbrev cX3_opens : ByteArray := prog_1_method_15_code
def yX3_opens : MethodName := ⟨RX3, "opens", "(II)I"⟩
def wX3_opens : Cond := .code yX3_opens cX3_opens 8 (some .int)
def wsX3_opens : List Cond := wX3_opens :: gAll
set_option maxRecDepth 20000 in
theorem kcX3_opens : wX3_opens ∈ gAll := g_mem 407 rfl rfl
abbrev cX3_quickestOnWay : ByteArray := prog_1_method_29_code
def yX3_quickestOnWay : MethodName := ⟨RX3, "quickestOnWay", "(LBreakerOrders$Device;I)LBreakerOrders$Setting;"⟩
def wX3_quickestOnWay : Cond := .code yX3_quickestOnWay cX3_quickestOnWay 4 (some (.object "BreakerOrders$Setting"))
def wsX3_quickestOnWay : List Cond := wX3_quickestOnWay :: gAll
set_option maxRecDepth 20000 in
theorem kcX3_quickestOnWay : wX3_quickestOnWay ∈ gAll := g_mem 411 rfl rfl
abbrev cX4_init : ByteArray := prog_6_method_1_code
def yX4_init : MethodName := ⟨RX4, "<init>", "()V"⟩
def wX4_init : Cond := .code yX4_init cX4_init 1 none
def wsX4_init : List Cond := wX4_init :: gAll
set_option maxRecDepth 20000 in
theorem kcX4_init : wX4_init ∈ gAll := g_mem 416 rfl rfl
abbrev cX4_thrown : ByteArray := prog_6_method_2_code
def yX4_thrown : MethodName := ⟨RX4, "thrown", "()I"⟩
def wX4_thrown : Cond := .code yX4_thrown cX4_thrown 1 (some .int)
def wsX4_thrown : List Cond := wX4_thrown :: gAll
set_option maxRecDepth 20000 in
theorem kcX4_thrown : wX4_thrown ∈ gAll := g_mem 473 rfl rfl
abbrev cX4_device : ByteArray := prog_6_method_5_code
def yX4_device : MethodName := ⟨RX4, "device", "(I)I"⟩
def wX4_device : Cond := .code yX4_device cX4_device 2 (some .int)
def wsX4_device : List Cond := wX4_device :: gAll
set_option maxRecDepth 20000 in
theorem kcX4_device : wX4_device ∈ gAll := g_mem 477 rfl rfl
abbrev cX4_isDevice : ByteArray := prog_6_method_4_code
def yX4_isDevice : MethodName := ⟨RX4, "isDevice", "(I)Z"⟩
def wX4_isDevice : Cond := .code yX4_isDevice cX4_isDevice 2 (some .boolean)
def wsX4_isDevice : List Cond := wX4_isDevice :: gAll
set_option maxRecDepth 20000 in
theorem kcX4_isDevice : wX4_isDevice ∈ gAll := g_mem 481 rfl rfl
abbrev cX4_in : ByteArray := prog_6_method_3_code
def yX4_in : MethodName := ⟨RX4, "in", "(III)Z"⟩
def wX4_in : Cond := .code yX4_in cX4_in 3 (some .boolean)
def wsX4_in : List Cond := wX4_in :: gAll
set_option maxRecDepth 20000 in
theorem kcX4_in : wX4_in ∈ gAll := g_mem 484 rfl rfl
abbrev cX4_point : ByteArray := prog_6_method_6_code
def yX4_point : MethodName := ⟨RX4, "point", "(IIII)I"⟩
def wX4_point : Cond := .code yX4_point cX4_point 7 (some .int)
def wsX4_point : List Cond := wX4_point :: gAll
set_option maxRecDepth 20000 in
theorem kcX4_point : wX4_point ∈ gAll := g_mem 488 rfl rfl
abbrev cX4_option : ByteArray := prog_6_method_7_code
def yX4_option : MethodName := ⟨RX4, "option", "(III)I"⟩
def wX4_option : Cond := .code yX4_option cX4_option 4 (some .int)
def wsX4_option : List Cond := wX4_option :: gAll
set_option maxRecDepth 20000 in
theorem kcX4_option : wX4_option ∈ gAll := g_mem 493 rfl rfl
abbrev cX4_choose : ByteArray := prog_6_method_8_code
def yX4_choose : MethodName := ⟨RX4, "choose", "(II)I"⟩
def wX4_choose : Cond := .code yX4_choose cX4_choose 4 (some .int)
def wsX4_choose : List Cond := wX4_choose :: gAll
set_option maxRecDepth 20000 in
theorem kcX4_choose : wX4_choose ∈ gAll := g_mem 497 rfl rfl
abbrev cX4_time : ByteArray := prog_6_method_11_code
def yX4_time : MethodName := ⟨RX4, "time", "(IIZ)I"⟩
def wX4_time : Cond := .code yX4_time cX4_time 4 (some .int)
def wsX4_time : List Cond := wX4_time :: gAll
set_option maxRecDepth 20000 in
theorem kcX4_time : wX4_time ∈ gAll := g_mem 501 rfl rfl
abbrev cX4_opensAt : ByteArray := prog_6_method_9_code
def yX4_opensAt : MethodName := ⟨RX4, "opensAt", "(III)Z"⟩
def wX4_opensAt : Cond := .code yX4_opensAt cX4_opensAt 4 (some .boolean)
def wsX4_opensAt : List Cond := wX4_opensAt :: gAll
set_option maxRecDepth 20000 in
theorem kcX4_opensAt : wX4_opensAt ∈ gAll := g_mem 505 rfl rfl
abbrev cX4_reckon : ByteArray := prog_6_method_10_code
def yX4_reckon : MethodName := ⟨RX4, "reckon", "(IIIZ)V"⟩
def wX4_reckon : Cond := .code yX4_reckon cX4_reckon 14 none
def wsX4_reckon : List Cond := wX4_reckon :: gAll
set_option maxRecDepth 20000 in
theorem kcX4_reckon : wX4_reckon ∈ gAll := g_mem 509 rfl rfl
abbrev cX4_opensFrom : ByteArray := prog_6_method_12_code
def yX4_opensFrom : MethodName := ⟨RX4, "opensFrom", "(I)I"⟩
def wX4_opensFrom : Cond := .code yX4_opensFrom cX4_opensFrom 3 (some .int)
def wsX4_opensFrom : List Cond := wX4_opensFrom :: gAll
set_option maxRecDepth 20000 in
theorem kcX4_opensFrom : wX4_opensFrom ∈ gAll := g_mem 514 rfl rfl
abbrev cX4_order : ByteArray := prog_6_method_15_code
def yX4_order : MethodName := ⟨RX4, "order", "(III)I"⟩
def wX4_order : Cond := .code yX4_order cX4_order 5 (some .int)
def wsX4_order : List Cond := wX4_order :: gAll
set_option maxRecDepth 20000 in
theorem kcX4_order : wX4_order ∈ gAll := g_mem 518 rfl rfl
abbrev cX4_lookOrder : ByteArray := prog_6_method_14_code
def yX4_lookOrder : MethodName := ⟨RX4, "lookOrder", "(III)V"⟩
def wX4_lookOrder : Cond := .code yX4_lookOrder cX4_lookOrder 4 none
def wsX4_lookOrder : List Cond := wX4_lookOrder :: gAll
set_option maxRecDepth 20000 in
theorem kcX4_lookOrder : wX4_lookOrder ∈ gAll := g_mem 522 rfl rfl
abbrev cX4_isGood : ByteArray := prog_6_method_13_code
def yX4_isGood : MethodName := ⟨RX4, "isGood", "(IIIIII)Z"⟩
def wX4_isGood : Cond := .code yX4_isGood cX4_isGood 11 (some .boolean)
def wsX4_isGood : List Cond := wX4_isGood :: gAll
set_option maxRecDepth 20000 in
theorem kcX4_isGood : wX4_isGood ∈ gAll := g_mem 526 rfl rfl
abbrev cX4_broken : ByteArray := prog_6_method_16_code
def yX4_broken : MethodName := ⟨RX4, "broken", "(III)I"⟩
def wX4_broken : Cond := .code yX4_broken cX4_broken 6 (some .int)
def wsX4_broken : List Cond := wX4_broken :: gAll
set_option maxRecDepth 20000 in
theorem kcX4_broken : wX4_broken ∈ gAll := g_mem 530 rfl rfl
abbrev cX4_settle : ByteArray := prog_6_method_18_code
def yX4_settle : MethodName := ⟨RX4, "settle", "(I)Z"⟩
def wX4_settle : Cond := .code yX4_settle cX4_settle 4 (some .boolean)
def wsX4_settle : List Cond := wX4_settle :: gAll
set_option maxRecDepth 20000 in
theorem kcX4_settle : wX4_settle ∈ gAll := g_mem 534 rfl rfl
abbrev cX4_fits : ByteArray := prog_6_method_17_code
def yX4_fits : MethodName := ⟨RX4, "fits", "(II)Z"⟩
def wX4_fits : Cond := .code yX4_fits cX4_fits 6 (some .boolean)
def wsX4_fits : List Cond := wX4_fits :: gAll
set_option maxRecDepth 20000 in
theorem kcX4_fits : wX4_fits ∈ gAll := g_mem 538 rfl rfl
abbrev cX4_chosen : ByteArray := prog_6_method_19_code
def yX4_chosen : MethodName := ⟨RX4, "chosen", "(I)I"⟩
def wX4_chosen : Cond := .code yX4_chosen cX4_chosen 2 (some .int)
def wsX4_chosen : List Cond := wX4_chosen :: gAll
set_option maxRecDepth 20000 in
theorem kcX4_chosen : wX4_chosen ∈ gAll := g_mem 542 rfl rfl
abbrev cX4_impedance : ByteArray := prog_6_method_20_code
def yX4_impedance : MethodName := ⟨RX4, "impedance", "(II)I"⟩
def wX4_impedance : Cond := .code yX4_impedance cX4_impedance 4 (some .int)
def wsX4_impedance : List Cond := wX4_impedance :: gAll
set_option maxRecDepth 20000 in
theorem kcX4_impedance : wX4_impedance ∈ gAll := g_mem 546 rfl rfl
abbrev cX4_voltage : ByteArray := prog_6_method_21_code
def yX4_voltage : MethodName := ⟨RX4, "voltage", "(I)I"⟩
def wX4_voltage : Cond := .code yX4_voltage cX4_voltage 3 (some .int)
def wsX4_voltage : List Cond := wX4_voltage :: gAll
set_option maxRecDepth 20000 in
theorem kcX4_voltage : wX4_voltage ∈ gAll := g_mem 550 rfl rfl
abbrev cX4_shortAt : ByteArray := prog_6_method_23_code
def yX4_shortAt : MethodName := ⟨RX4, "shortAt", "(I)I"⟩
def wX4_shortAt : Cond := .code yX4_shortAt cX4_shortAt 2 (some .int)
def wsX4_shortAt : List Cond := wX4_shortAt :: gAll
set_option maxRecDepth 20000 in
theorem kcX4_shortAt : wX4_shortAt ∈ gAll := g_mem 555 rfl rfl
abbrev cX4_currentAt : ByteArray := prog_6_method_22_code
def yX4_currentAt : MethodName := ⟨RX4, "currentAt", "(I)I"⟩
def wX4_currentAt : Cond := .code yX4_currentAt cX4_currentAt 6 (some .int)
def wsX4_currentAt : List Cond := wX4_currentAt :: gAll
set_option maxRecDepth 20000 in
theorem kcX4_currentAt : wX4_currentAt ∈ gAll := g_mem 559 rfl rfl
abbrev cX4_opens : ByteArray := prog_6_method_25_code
def yX4_opens : MethodName := ⟨RX4, "opens", "(II)I"⟩
def wX4_opens : Cond := .code yX4_opens cX4_opens 6 (some .int)
def wsX4_opens : List Cond := wX4_opens :: gAll
set_option maxRecDepth 20000 in
theorem kcX4_opens : wX4_opens ∈ gAll := g_mem 565 rfl rfl
abbrev cX4_isFirst : ByteArray := prog_6_method_24_code
def yX4_isFirst : MethodName := ⟨RX4, "isFirst", "(III)Z"⟩
def wX4_isFirst : Cond := .code yX4_isFirst cX4_isFirst 10 (some .boolean)
def wsX4_isFirst : List Cond := wX4_isFirst :: gAll
set_option maxRecDepth 20000 in
theorem kcX4_isFirst : wX4_isFirst ∈ gAll := g_mem 569 rfl rfl
