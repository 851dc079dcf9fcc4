/-! ===== BEGIN words of one list among another's, by their places ===== -/
theorem goodIn_r {big : List Cond} (ws : List Cond) (ps : List Nat) (hp : ws = ps.filterMap (fun i => big[i]?)) (h : ws.all goodWord = true) : GoodIn big ws := by
  intro w hw
  have h1 := List.all_eq_true.mp h w hw
  rw [hp] at hw
  obtain ⟨i, -, hi⟩ := List.mem_filterMap.mp hw
  have hm : w ∈ big := by first | exact List.mem_of_getElem? hi | exact List.getElem?_mem hi
  exact ⟨hm, good_of_word h1⟩
theorem goodIn_app {big a b : List Cond} (ha : GoodIn big a) (hb : GoodIn big b) : GoodIn big (a ++ b) := fun w h => (List.mem_append.mp h).elim (ha w) (hb w)
theorem goodIn_ca {big a b : List Cond} {c : Cond} (ha : GoodIn big (c :: a)) (hb : GoodIn big b) : GoodIn big (c :: (a ++ b)) := fun w h => (List.mem_cons.mp h).elim (fun e => ha w (List.mem_cons.mpr (Or.inl e))) (fun h => (List.mem_append.mp h).elim (fun h => ha w (List.mem_cons.mpr (Or.inr h))) (hb w))
theorem goodIn_sub {big ws : List Cond} (hm : ∀ w ∈ ws, w ∈ big) (h : ws.all goodWord = true) : GoodIn big ws := fun w hw => ⟨hm w hw, good_of_word (List.all_eq_true.mp h w hw)⟩
/-! ===== END ===== -/

/-! ===== BEGIN printed: names, fields, word lists, decode rows ===== -/
def RX0 : String := "CarOrders$Fewest"
def TX0 : u_T := fun k => match k with
  | 0 => ("CarOrders$Walk", "plan", "LCarOrders$Plan;", true)
  | 1 => ("CarOrders$Walk", "row", "LCarOrders$Row;", true)
  | 2 => ("CarOrders$Walk", "cars", "I", false)
  | 3 => ("CarOrders$Walk", "known", "Z", false)
  | 4 => ("CarOrders$Fewest", "first", "[I", true)
  | 5 => ("CarOrders$Fewest", "least", "I", false)
  | _ => ("CarOrders$Fewest", "all", "I", false)
def tyX0 : Nat → FieldType := fun k => match k with
  | 0 => .object "CarOrders$Plan"
  | 1 => .object "CarOrders$Row"
  | 2 => .int
  | 3 => .boolean
  | 4 => .array .int
  | 5 => .int
  | _ => .int
abbrev wsX00 : List Cond := u_ws RX0 TX0 7
theorem nmX0 : ∀ a, a < 7 → ∀ b, b < 7 → a ≠ b → (TX0 a).2.1 ≠ (TX0 b).2.1 := by decide +kernel
theorem tyX0_ok : ∀ k, k < 7 → parseFieldDescriptor (TX0 k).2.2.1 = some (tyX0 k) := by decide +kernel
abbrev cX0_init : ByteArray := prog_2_method_1_code
def yX0_init : MethodName := ⟨RX0, "<init>", "(LCarOrders$Plan;LCarOrders$Row;)V"⟩
abbrev cX0_begin : ByteArray := prog_2_method_2_code
def yX0_begin : MethodName := ⟨RX0, "begin", "()V"⟩
abbrev cX0_matters : ByteArray := prog_2_method_3_code
def yX0_matters : MethodName := ⟨RX0, "matters", "(I)Z"⟩
abbrev cX0_note : ByteArray := prog_2_method_4_code
def yX0_note : MethodName := ⟨RX0, "note", "()V"⟩
def RX1 : String := "CarOrders$Filling"
def TX1 : u_T := fun k => match k with
  | 0 => ("CarOrders$Walk", "plan", "LCarOrders$Plan;", true)
  | 1 => ("CarOrders$Walk", "row", "LCarOrders$Row;", true)
  | 2 => ("CarOrders$Walk", "cars", "I", false)
  | 3 => ("CarOrders$Walk", "known", "Z", false)
  | 4 => ("CarOrders$Filling", "pad", "LCarOrders$Pad;", true)
  | 5 => ("CarOrders$Filling", "first", "[I", true)
  | _ => ("CarOrders$Filling", "all", "I", false)
def tyX1 : Nat → FieldType := fun k => match k with
  | 0 => .object "CarOrders$Plan"
  | 1 => .object "CarOrders$Row"
  | 2 => .int
  | 3 => .boolean
  | 4 => .object "CarOrders$Pad"
  | 5 => .array .int
  | _ => .int
abbrev wsX10 : List Cond := u_ws RX1 TX1 7
theorem nmX1 : ∀ a, a < 7 → ∀ b, b < 7 → a ≠ b → (TX1 a).2.1 ≠ (TX1 b).2.1 := by decide +kernel
theorem tyX1_ok : ∀ k, k < 7 → parseFieldDescriptor (TX1 k).2.2.1 = some (tyX1 k) := by decide +kernel
abbrev cX1_init : ByteArray := prog_3_method_1_code
def yX1_init : MethodName := ⟨RX1, "<init>", "(LCarOrders$Plan;LCarOrders$Row;LCarOrders$Pad;)V"⟩
abbrev cX1_begin : ByteArray := prog_3_method_2_code
def yX1_begin : MethodName := ⟨RX1, "begin", "()V"⟩
abbrev cX1_matters : ByteArray := prog_3_method_3_code
def yX1_matters : MethodName := ⟨RX1, "matters", "(I)Z"⟩
abbrev cX1_note : ByteArray := prog_3_method_4_code
def yX1_note : MethodName := ⟨RX1, "note", "()V"⟩
def RX2 : String := "CarOrders$Fitting"
def TX2 : u_T := fun k => match k with
  | 0 => ("CarOrders$Walk", "plan", "LCarOrders$Plan;", true)
  | 1 => ("CarOrders$Walk", "row", "LCarOrders$Row;", true)
  | 2 => ("CarOrders$Walk", "cars", "I", false)
  | 3 => ("CarOrders$Walk", "known", "Z", false)
  | 4 => ("CarOrders$Fitting", "first", "[I", true)
  | 5 => ("CarOrders$Fitting", "firstNear", "[I", true)
  | 6 => ("CarOrders$Fitting", "sets", "[I", true)
  | 7 => ("CarOrders$Fitting", "ruled", "[I", true)
  | 8 => ("CarOrders$Fitting", "off", "[I", true)
  | 9 => ("CarOrders$Fitting", "all", "I", false)
  | _ => ("CarOrders$Fitting", "near", "I", false)
def tyX2 : Nat → FieldType := fun k => match k with
  | 0 => .object "CarOrders$Plan"
  | 1 => .object "CarOrders$Row"
  | 2 => .int
  | 3 => .boolean
  | 4 => .array .int
  | 5 => .array .int
  | 6 => .array .int
  | 7 => .array .int
  | 8 => .array .int
  | 9 => .int
  | _ => .int
abbrev wsX20 : List Cond := u_ws RX2 TX2 11
theorem nmX2 : ∀ a, a < 11 → ∀ b, b < 11 → a ≠ b → (TX2 a).2.1 ≠ (TX2 b).2.1 := by decide +kernel
theorem tyX2_ok : ∀ k, k < 11 → parseFieldDescriptor (TX2 k).2.2.1 = some (tyX2 k) := by decide +kernel
abbrev cX2_init : ByteArray := prog_4_method_1_code
def yX2_init : MethodName := ⟨RX2, "<init>", "(LCarOrders$Plan;LCarOrders$Row;)V"⟩
abbrev cX2_begin : ByteArray := prog_4_method_2_code
def yX2_begin : MethodName := ⟨RX2, "begin", "()V"⟩
abbrev cX2_matters : ByteArray := prog_4_method_3_code
def yX2_matters : MethodName := ⟨RX2, "matters", "(I)Z"⟩
abbrev cX2_note : ByteArray := prog_4_method_4_code
def yX2_note : MethodName := ⟨RX2, "note", "()V"⟩
def RX3 : String := "CarOrders$Most"
def TX3 : u_T := fun k => match k with
  | 0 => ("CarOrders$Walk", "plan", "LCarOrders$Plan;", true)
  | 1 => ("CarOrders$Walk", "row", "LCarOrders$Row;", true)
  | 2 => ("CarOrders$Walk", "cars", "I", false)
  | 3 => ("CarOrders$Walk", "known", "Z", false)
  | 4 => ("CarOrders$Most", "most", "I", false)
  | _ => ("CarOrders$Most", "toCome", "[I", true)
def tyX3 : Nat → FieldType := fun k => match k with
  | 0 => .object "CarOrders$Plan"
  | 1 => .object "CarOrders$Row"
  | 2 => .int
  | 3 => .boolean
  | 4 => .int
  | _ => .array .int
abbrev wsX30 : List Cond := u_ws RX3 TX3 6
theorem nmX3 : ∀ a, a < 6 → ∀ b, b < 6 → a ≠ b → (TX3 a).2.1 ≠ (TX3 b).2.1 := by decide +kernel
theorem tyX3_ok : ∀ k, k < 6 → parseFieldDescriptor (TX3 k).2.2.1 = some (tyX3 k) := by decide +kernel
abbrev cX3_init : ByteArray := prog_5_method_1_code
def yX3_init : MethodName := ⟨RX3, "<init>", "(LCarOrders$Plan;LCarOrders$Row;)V"⟩
abbrev cX3_begin : ByteArray := prog_5_method_2_code
def yX3_begin : MethodName := ⟨RX3, "begin", "()V"⟩
abbrev cX3_matters : ByteArray := prog_5_method_3_code
def yX3_matters : MethodName := ⟨RX3, "matters", "(I)Z"⟩
abbrev cX3_note : ByteArray := prog_5_method_4_code
def yX3_note : MethodName := ⟨RX3, "note", "()V"⟩
def RX4 : String := "CarOrders$Pad"
def TX4 : u_T := fun k => match k with
  | 0 => ("CarOrders$Pad", "signs", "[I", true)
  | _ => ("CarOrders$Pad", "length", "I", false)
def tyX4 : Nat → FieldType := fun k => match k with
  | 0 => .array .int
  | _ => .int
abbrev wsX40 : List Cond := u_ws RX4 TX4 2
theorem nmX4 : ∀ a, a < 2 → ∀ b, b < 2 → a ≠ b → (TX4 a).2.1 ≠ (TX4 b).2.1 := by decide +kernel
theorem tyX4_ok : ∀ k, k < 2 → parseFieldDescriptor (TX4 k).2.2.1 = some (tyX4 k) := by decide +kernel
abbrev cX4_init : ByteArray := prog_6_method_1_code
def yX4_init : MethodName := ⟨RX4, "<init>", "()V"⟩
abbrev cX4_add : ByteArray := prog_6_method_2_code
def yX4_add : MethodName := ⟨RX4, "add", "(I)V"⟩
abbrev cX4_signAt : ByteArray := prog_6_method_3_code
def yX4_signAt : MethodName := ⟨RX4, "signAt", "(I)I"⟩
abbrev cX4_hasAny : ByteArray := prog_6_method_4_code
def yX4_hasAny : MethodName := ⟨RX4, "hasAny", "()Z"⟩
abbrev cX4_allows : ByteArray := prog_6_method_5_code
def yX4_allows : MethodName := ⟨RX4, "allows", "(II)Z"⟩
def RX5 : String := "CarOrders$Plan"
def TX5 : u_T := fun k => match k with
  | 0 => ("CarOrders$Plan", "may", "[I", true)
  | 1 => ("CarOrders$Plan", "of", "[I", true)
  | 2 => ("CarOrders$Plan", "windows", "[I", true)
  | 3 => ("CarOrders$Plan", "sets", "[I", true)
  | _ => ("CarOrders$Plan", "demands", "[I", true)
def tyX5 : Nat → FieldType := fun k => match k with
  | 0 => .array .int
  | 1 => .array .int
  | 2 => .array .int
  | 3 => .array .int
  | _ => .array .int
abbrev wsX50 : List Cond := u_ws RX5 TX5 5
theorem nmX5 : ∀ a, a < 5 → ∀ b, b < 5 → a ≠ b → (TX5 a).2.1 ≠ (TX5 b).2.1 := by decide +kernel
theorem tyX5_ok : ∀ k, k < 5 → parseFieldDescriptor (TX5 k).2.2.1 = some (tyX5 k) := by decide +kernel
abbrev cX5_init : ByteArray := prog_7_method_1_code
def yX5_init : MethodName := ⟨RX5, "<init>", "()V"⟩
abbrev cX5_setOption : ByteArray := prog_7_method_2_code
def yX5_setOption : MethodName := ⟨RX5, "setOption", "(III)V"⟩
abbrev cX5_copyFrom : ByteArray := prog_7_method_3_code
def yX5_copyFrom : MethodName := ⟨RX5, "copyFrom", "(LCarOrders$Plan;)V"⟩
abbrev cX5_cars : ByteArray := prog_7_method_4_code
def yX5_cars : MethodName := ⟨RX5, "cars", "()I"⟩
abbrev cX5_classesWithDemand : ByteArray := prog_7_method_5_code
def yX5_classesWithDemand : MethodName := ⟨RX5, "classesWithDemand", "()I"⟩
abbrev cX5_wanted : ByteArray := prog_7_method_6_code
def yX5_wanted : MethodName := ⟨RX5, "wanted", "(I)I"⟩
abbrev cX5_room : ByteArray := prog_7_method_7_code
def yX5_room : MethodName := ⟨RX5, "room", "(I)I"⟩
abbrev cX5_orderCount : ByteArray := prog_7_method_8_code
def yX5_orderCount : MethodName := ⟨RX5, "orderCount", "()I"⟩
abbrev cX5_breaksBehind : ByteArray := prog_7_method_9_code
def yX5_breaksBehind : MethodName := ⟨RX5, "breaksBehind", "(II)I"⟩
abbrev cX5_breaksAtEnd : ByteArray := prog_7_method_10_code
def yX5_breaksAtEnd : MethodName := ⟨RX5, "breaksAtEnd", "(II)I"⟩
def RX6 : String := "CarOrders$Row"
def TX6 : u_T := fun k => match k with
  | 0 => ("CarOrders$Row", "plan", "LCarOrders$Plan;", true)
  | 1 => ("CarOrders$Row", "classes", "[I", true)
  | 2 => ("CarOrders$Row", "trails", "[I", true)
  | 3 => ("CarOrders$Row", "breaks", "[I", true)
  | 4 => ("CarOrders$Row", "left", "[I", true)
  | _ => ("CarOrders$Row", "length", "I", false)
def tyX6 : Nat → FieldType := fun k => match k with
  | 0 => .object "CarOrders$Plan"
  | 1 => .array .int
  | 2 => .array .int
  | 3 => .array .int
  | 4 => .array .int
  | _ => .int
abbrev wsX60 : List Cond := u_ws RX6 TX6 6
theorem nmX6 : ∀ a, a < 6 → ∀ b, b < 6 → a ≠ b → (TX6 a).2.1 ≠ (TX6 b).2.1 := by decide +kernel
theorem tyX6_ok : ∀ k, k < 6 → parseFieldDescriptor (TX6 k).2.2.1 = some (tyX6 k) := by decide +kernel
abbrev cX6_init : ByteArray := prog_8_method_1_code
def yX6_init : MethodName := ⟨RX6, "<init>", "(LCarOrders$Plan;)V"⟩
abbrev cX6_start : ByteArray := prog_8_method_2_code
def yX6_start : MethodName := ⟨RX6, "start", "()V"⟩
abbrev cX6_put : ByteArray := prog_8_method_3_code
def yX6_put : MethodName := ⟨RX6, "put", "(I)V"⟩
abbrev cX6_takeRule : ByteArray := prog_8_method_4_code
def yX6_takeRule : MethodName := ⟨RX6, "takeRule", "(I)V"⟩
abbrev cX6_drop : ByteArray := prog_8_method_5_code
def yX6_drop : MethodName := ⟨RX6, "drop", "()V"⟩
abbrev cX6_breaks : ByteArray := prog_8_method_6_code
def yX6_breaks : MethodName := ⟨RX6, "breaks", "()I"⟩
abbrev cX6_firstBreak : ByteArray := prog_8_method_7_code
def yX6_firstBreak : MethodName := ⟨RX6, "firstBreak", "()I"⟩
abbrev cX6_isOrder : ByteArray := prog_8_method_8_code
def yX6_isOrder : MethodName := ⟨RX6, "isOrder", "()Z"⟩
abbrev cX6_ruleClass : ByteArray := prog_8_method_9_code
def yX6_ruleClass : MethodName := ⟨RX6, "ruleClass", "()I"⟩
abbrev cX6_trailWith : ByteArray := prog_8_method_10_code
def yX6_trailWith : MethodName := ⟨RX6, "trailWith", "(I)I"⟩
def RX7 : String := "CarOrders$Siding"
def TX7 : u_T := fun k => match k with
  | 0 => ("CarOrders$Siding", "pad", "LCarOrders$Pad;", true)
  | 1 => ("CarOrders$Siding", "row", "LCarOrders$Row;", true)
  | _ => ("CarOrders$Siding", "best", "I", false)
def tyX7 : Nat → FieldType := fun k => match k with
  | 0 => .object "CarOrders$Pad"
  | 1 => .object "CarOrders$Row"
  | _ => .int
abbrev wsX70 : List Cond := u_ws RX7 TX7 3
theorem nmX7 : ∀ a, a < 3 → ∀ b, b < 3 → a ≠ b → (TX7 a).2.1 ≠ (TX7 b).2.1 := by decide +kernel
theorem tyX7_ok : ∀ k, k < 3 → parseFieldDescriptor (TX7 k).2.2.1 = some (tyX7 k) := by decide +kernel
abbrev cX7_init : ByteArray := prog_9_method_1_code
def yX7_init : MethodName := ⟨RX7, "<init>", "(LCarOrders$Pad;LCarOrders$Row;)V"⟩
abbrev cX7_putRight : ByteArray := prog_9_method_2_code
def yX7_putRight : MethodName := ⟨RX7, "putRight", "(I)I"⟩
abbrev cX7_walk : ByteArray := prog_9_method_3_code
def yX7_walk : MethodName := ⟨RX7, "walk", "(III)V"⟩
def RX8 : String := "CarOrders$Walk"
def TX8 : u_T := fun k => match k with
  | _ => ("", "", "", false)
def tyX8 : Nat → FieldType := fun k => match k with
  | _ => .int
abbrev wsX80 : List Cond := u_ws RX8 TX8 0
theorem nmX8 : ∀ a, a < 0 → ∀ b, b < 0 → a ≠ b → (TX8 a).2.1 ≠ (TX8 b).2.1 := by decide +kernel
theorem tyX8_ok : ∀ k, k < 0 → parseFieldDescriptor (TX8 k).2.2.1 = some (tyX8 k) := by decide +kernel
abbrev cX8_init : ByteArray := prog_10_method_1_code
def yX8_init : MethodName := ⟨RX8, "<init>", "(LCarOrders$Plan;LCarOrders$Row;)V"⟩
abbrev cX8_forget : ByteArray := prog_10_method_2_code
def yX8_forget : MethodName := ⟨RX8, "forget", "()V"⟩
abbrev cX8_refresh : ByteArray := prog_10_method_3_code
def yX8_refresh : MethodName := ⟨RX8, "refresh", "()V"⟩
abbrev cX8_goOn : ByteArray := prog_10_method_4_code
def yX8_goOn : MethodName := ⟨RX8, "goOn", "(I)V"⟩
abbrev cX8_keepRow : ByteArray := prog_10_method_5_code
def yX8_keepRow : MethodName := ⟨RX8, "keepRow", "([I)V"⟩
def RX9 : String := "CarOrders"
def TX9 : u_T := fun k => match k with
  | 0 => ("CarOrders", "plan", "LCarOrders$Plan;", true)
  | 1 => ("CarOrders", "pad", "LCarOrders$Pad;", true)
  | 2 => ("CarOrders", "walked", "LCarOrders$Row;", true)
  | 3 => ("CarOrders", "fitting", "LCarOrders$Fitting;", true)
  | 4 => ("CarOrders", "fewest", "LCarOrders$Fewest;", true)
  | 5 => ("CarOrders", "most", "LCarOrders$Most;", true)
  | 6 => ("CarOrders", "filling", "LCarOrders$Filling;", true)
  | 7 => ("CarOrders", "siding", "LCarOrders$Siding;", true)
  | 8 => ("CarOrders", "firstImage", "LCarOrders$Plan;", true)
  | 9 => ("CarOrders", "secondImage", "LCarOrders$Plan;", true)
  | _ => ("CarOrders", "imagesKept", "I", false)
def tyX9 : Nat → FieldType := fun k => match k with
  | 0 => .object "CarOrders$Plan"
  | 1 => .object "CarOrders$Pad"
  | 2 => .object "CarOrders$Row"
  | 3 => .object "CarOrders$Fitting"
  | 4 => .object "CarOrders$Fewest"
  | 5 => .object "CarOrders$Most"
  | 6 => .object "CarOrders$Filling"
  | 7 => .object "CarOrders$Siding"
  | 8 => .object "CarOrders$Plan"
  | 9 => .object "CarOrders$Plan"
  | _ => .int
abbrev wsX90 : List Cond := u_ws RX9 TX9 11
theorem nmX9 : ∀ a, a < 11 → ∀ b, b < 11 → a ≠ b → (TX9 a).2.1 ≠ (TX9 b).2.1 := by decide +kernel
theorem tyX9_ok : ∀ k, k < 11 → parseFieldDescriptor (TX9 k).2.2.1 = some (tyX9 k) := by decide +kernel
abbrev cX9_init : ByteArray := prog_1_method_1_code
def yX9_init : MethodName := ⟨RX9, "<init>", "()V"⟩
abbrev cX9_option : ByteArray := prog_1_method_2_code
def yX9_option : MethodName := ⟨RX9, "option", "(III)I"⟩
abbrev cX9_options : ByteArray := prog_1_method_3_code
def yX9_options : MethodName := ⟨RX9, "options", "(II)I"⟩
abbrev cX9_demand : ByteArray := prog_1_method_4_code
def yX9_demand : MethodName := ⟨RX9, "demand", "(II)I"⟩
abbrev cX9_told : ByteArray := prog_1_method_5_code
def yX9_told : MethodName := ⟨RX9, "told", "(II)I"⟩
abbrev cX9_of : ByteArray := prog_1_method_6_code
def yX9_of : MethodName := ⟨RX9, "of", "(II)I"⟩
abbrev cX9_fits : ByteArray := prog_1_method_7_code
def yX9_fits : MethodName := ⟨RX9, "fits", "(I)I"⟩
abbrev cX9_least : ByteArray := prog_1_method_8_code
def yX9_least : MethodName := ⟨RX9, "least", "(I)I"⟩
abbrev cX9_clash : ByteArray := prog_1_method_9_code
def yX9_clash : MethodName := ⟨RX9, "clash", "()I"⟩
abbrev cX9_orders : ByteArray := prog_1_method_10_code
def yX9_orders : MethodName := ⟨RX9, "orders", "(I)I"⟩
abbrev cX9_at : ByteArray := prog_1_method_11_code
def yX9_at : MethodName := ⟨RX9, "at", "(I)I"⟩
abbrev cX9_rule : ByteArray := prog_1_method_12_code
def yX9_rule : MethodName := ⟨RX9, "rule", "(I)I"⟩
abbrev cX9_near : ByteArray := prog_1_method_13_code
def yX9_near : MethodName := ⟨RX9, "near", "(I)I"⟩
abbrev cX9_say : ByteArray := prog_1_method_14_code
def yX9_say : MethodName := ⟨RX9, "say", "(I)I"⟩
abbrev cX9_wipe : ByteArray := prog_1_method_15_code
def yX9_wipe : MethodName := ⟨RX9, "wipe", "()I"⟩
abbrev cX9_row : ByteArray := prog_1_method_16_code
def yX9_row : MethodName := ⟨RX9, "row", "(I)I"⟩
abbrev cX9_filled : ByteArray := prog_1_method_17_code
def yX9_filled : MethodName := ⟨RX9, "filled", "(I)I"⟩
abbrev cX9_lane : ByteArray := prog_1_method_18_code
def yX9_lane : MethodName := ⟨RX9, "lane", "(I)I"⟩
abbrev cX9_image : ByteArray := prog_1_method_19_code
def yX9_image : MethodName := ⟨RX9, "image", "(I)I"⟩
abbrev cX9_restore : ByteArray := prog_1_method_20_code
def yX9_restore : MethodName := ⟨RX9, "restore", "(I)I"⟩
abbrev cX9_count : ByteArray := prog_1_method_21_code
def yX9_count : MethodName := ⟨RX9, "count", "(I)I"⟩
abbrev cX9_isOption : ByteArray := prog_1_method_22_code
def yX9_isOption : MethodName := ⟨RX9, "isOption", "(I)Z"⟩
abbrev cX9_isClass : ByteArray := prog_1_method_23_code
def yX9_isClass : MethodName := ⟨RX9, "isClass", "(I)Z"⟩
abbrev cX9_isImage : ByteArray := prog_1_method_24_code
def yX9_isImage : MethodName := ⟨RX9, "isImage", "(I)Z"⟩
abbrev cX9_imageOf : ByteArray := prog_1_method_25_code
def yX9_imageOf : MethodName := ⟨RX9, "imageOf", "(I)LCarOrders$Plan;"⟩
abbrev cX9_forgetOrders : ByteArray := prog_1_method_26_code
def yX9_forgetOrders : MethodName := ⟨RX9, "forgetOrders", "()V"⟩
abbrev cX9_classAt : ByteArray := prog_1_method_27_code
def yX9_classAt : MethodName := ⟨RX9, "classAt", "([II)I"⟩
abbrev cX9_walkPad : ByteArray := prog_1_method_28_code
def yX9_walkPad : MethodName := ⟨RX9, "walkPad", "()I"⟩
abbrev cX9_padIsOrder : ByteArray := prog_1_method_29_code
def yX9_padIsOrder : MethodName := ⟨RX9, "padIsOrder", "()Z"⟩
def RX10 : String := "CarOrdersModel"
def TX10 : u_T := fun k => match k with
  | 0 => ("CarOrdersModel", "state", "[I", true)
  | 1 => ("CarOrdersModel", "images", "[I", true)
  | 2 => ("CarOrdersModel", "isKept", "[Z", true)
  | 3 => ("CarOrdersModel", "pad", "[I", true)
  | 4 => ("CarOrdersModel", "said", "I", false)
  | 5 => ("CarOrdersModel", "row", "[I", true)
  | 6 => ("CarOrdersModel", "many", "I", false)
  | 7 => ("CarOrdersModel", "best", "[I", true)
  | 8 => ("CarOrdersModel", "atPlace", "[I", true)
  | 9 => ("CarOrdersModel", "found", "I", false)
  | 10 => ("CarOrdersModel", "fewest", "I", false)
  | 11 => ("CarOrdersModel", "highest", "I", false)
  | 12 => ("CarOrdersModel", "asFew", "I", false)
  | 13 => ("CarOrdersModel", "all", "I", false)
  | 14 => ("CarOrdersModel", "left", "[I", true)
  | _ => ("CarOrdersModel", "waiting", "[I", true)
def tyX10 : Nat → FieldType := fun k => match k with
  | 0 => .array .int
  | 1 => .array .int
  | 2 => .array .boolean
  | 3 => .array .int
  | 4 => .int
  | 5 => .array .int
  | 6 => .int
  | 7 => .array .int
  | 8 => .array .int
  | 9 => .int
  | 10 => .int
  | 11 => .int
  | 12 => .int
  | 13 => .int
  | 14 => .array .int
  | _ => .array .int
abbrev wsX100 : List Cond := u_ws RX10 TX10 16
theorem nmX10 : ∀ a, a < 16 → ∀ b, b < 16 → a ≠ b → (TX10 a).2.1 ≠ (TX10 b).2.1 := by decide +kernel
theorem tyX10_ok : ∀ k, k < 16 → parseFieldDescriptor (TX10 k).2.2.1 = some (tyX10 k) := by decide +kernel
abbrev cX10_init : ByteArray := prog_12_method_1_code
def yX10_init : MethodName := ⟨RX10, "<init>", "()V"⟩
abbrev cX10_in : ByteArray := prog_12_method_2_code
def yX10_in : MethodName := ⟨RX10, "in", "(III)Z"⟩
abbrev cX10_isOption : ByteArray := prog_12_method_3_code
def yX10_isOption : MethodName := ⟨RX10, "isOption", "(I)Z"⟩
abbrev cX10_isClass : ByteArray := prog_12_method_4_code
def yX10_isClass : MethodName := ⟨RX10, "isClass", "(I)Z"⟩
abbrev cX10_has : ByteArray := prog_12_method_5_code
def yX10_has : MethodName := ⟨RX10, "has", "(II)Z"⟩
abbrev cX10_cars : ByteArray := prog_12_method_6_code
def yX10_cars : MethodName := ⟨RX10, "cars", "()I"⟩
abbrev cX10_option : ByteArray := prog_12_method_7_code
def yX10_option : MethodName := ⟨RX10, "option", "(III)I"⟩
abbrev cX10_options : ByteArray := prog_12_method_8_code
def yX10_options : MethodName := ⟨RX10, "options", "(II)I"⟩
abbrev cX10_demand : ByteArray := prog_12_method_9_code
def yX10_demand : MethodName := ⟨RX10, "demand", "(II)I"⟩
abbrev cX10_told : ByteArray := prog_12_method_10_code
def yX10_told : MethodName := ⟨RX10, "told", "(II)I"⟩
abbrev cX10_wanted : ByteArray := prog_12_method_11_code
def yX10_wanted : MethodName := ⟨RX10, "wanted", "(I)I"⟩
abbrev cX10_less : ByteArray := prog_12_method_12_code
def yX10_less : MethodName := ⟨RX10, "less", "(II)I"⟩
abbrev cX10_room : ByteArray := prog_12_method_13_code
def yX10_room : MethodName := ⟨RX10, "room", "(I)I"⟩
abbrev cX10_of : ByteArray := prog_12_method_14_code
def yX10_of : MethodName := ⟨RX10, "of", "(II)I"⟩
abbrev cX10_clash : ByteArray := prog_12_method_15_code
def yX10_clash : MethodName := ⟨RX10, "clash", "()I"⟩
abbrev cX10_isBreak : ByteArray := prog_12_method_16_code
def yX10_isBreak : MethodName := ⟨RX10, "isBreak", "(II)Z"⟩
abbrev cX10_breaksAt : ByteArray := prog_12_method_17_code
def yX10_breaksAt : MethodName := ⟨RX10, "breaksAt", "(I)I"⟩
abbrev cX10_breaks : ByteArray := prog_12_method_18_code
def yX10_breaks : MethodName := ⟨RX10, "breaks", "()I"⟩
abbrev cX10_firstOrder : ByteArray := prog_12_method_19_code
def yX10_firstOrder : MethodName := ⟨RX10, "firstOrder", "()V"⟩
abbrev cX10_swap : ByteArray := prog_12_method_20_code
def yX10_swap : MethodName := ⟨RX10, "swap", "(II)V"⟩
abbrev cX10_nextOrder : ByteArray := prog_12_method_21_code
def yX10_nextOrder : MethodName := ⟨RX10, "nextOrder", "()Z"⟩
abbrev cX10_keepBest : ByteArray := prog_12_method_22_code
def yX10_keepBest : MethodName := ⟨RX10, "keepBest", "()V"⟩
abbrev cX10_told_ : ByteArray := prog_12_method_23_code
def yX10_told_ : MethodName := ⟨RX10, "told", "(I)I"⟩
abbrev cX10_goFits : ByteArray := prog_12_method_24_code
def yX10_goFits : MethodName := ⟨RX10, "goFits", "()V"⟩
abbrev cX10_fits : ByteArray := prog_12_method_25_code
def yX10_fits : MethodName := ⟨RX10, "fits", "(I)I"⟩
abbrev cX10_at : ByteArray := prog_12_method_26_code
def yX10_at : MethodName := ⟨RX10, "at", "(I)I"⟩
abbrev cX10_goLeast : ByteArray := prog_12_method_27_code
def yX10_goLeast : MethodName := ⟨RX10, "goLeast", "()V"⟩
abbrev cX10_least : ByteArray := prog_12_method_28_code
def yX10_least : MethodName := ⟨RX10, "least", "(I)I"⟩
abbrev cX10_orders : ByteArray := prog_12_method_29_code
def yX10_orders : MethodName := ⟨RX10, "orders", "(I)I"⟩
abbrev cX10_size : ByteArray := prog_12_method_30_code
def yX10_size : MethodName := ⟨RX10, "size", "(I)I"⟩
abbrev cX10_layLeft : ByteArray := prog_12_method_31_code
def yX10_layLeft : MethodName := ⟨RX10, "layLeft", "(I)V"⟩
abbrev cX10_isBetter : ByteArray := prog_12_method_32_code
def yX10_isBetter : MethodName := ⟨RX10, "isBetter", "(IIII)Z"⟩
abbrev cX10_taken : ByteArray := prog_12_method_33_code
def yX10_taken : MethodName := ⟨RX10, "taken", "(I)I"⟩
abbrev cX10_goRule : ByteArray := prog_12_method_34_code
def yX10_goRule : MethodName := ⟨RX10, "goRule", "()V"⟩
abbrev cX10_rule : ByteArray := prog_12_method_35_code
def yX10_rule : MethodName := ⟨RX10, "rule", "(I)I"⟩
abbrev cX10_off : ByteArray := prog_12_method_36_code
def yX10_off : MethodName := ⟨RX10, "off", "()I"⟩
abbrev cX10_near : ByteArray := prog_12_method_37_code
def yX10_near : MethodName := ⟨RX10, "near", "(I)I"⟩
abbrev cX10_say : ByteArray := prog_12_method_38_code
def yX10_say : MethodName := ⟨RX10, "say", "(I)I"⟩
abbrev cX10_wipe : ByteArray := prog_12_method_39_code
def yX10_wipe : MethodName := ⟨RX10, "wipe", "()I"⟩
abbrev cX10_isOpen : ByteArray := prog_12_method_40_code
def yX10_isOpen : MethodName := ⟨RX10, "isOpen", "()Z"⟩
abbrev cX10_layPad : ByteArray := prog_12_method_41_code
def yX10_layPad : MethodName := ⟨RX10, "layPad", "()V"⟩
abbrev cX10_onPad : ByteArray := prog_12_method_42_code
def yX10_onPad : MethodName := ⟨RX10, "onPad", "(I)I"⟩
abbrev cX10_isOrder : ByteArray := prog_12_method_43_code
def yX10_isOrder : MethodName := ⟨RX10, "isOrder", "()Z"⟩
abbrev cX10_firstBreak : ByteArray := prog_12_method_44_code
def yX10_firstBreak : MethodName := ⟨RX10, "firstBreak", "()I"⟩
abbrev cX10_row : ByteArray := prog_12_method_45_code
def yX10_row : MethodName := ⟨RX10, "row", "(I)I"⟩
abbrev cX10_isAsTold : ByteArray := prog_12_method_46_code
def yX10_isAsTold : MethodName := ⟨RX10, "isAsTold", "()Z"⟩
abbrev cX10_filled : ByteArray := prog_12_method_47_code
def yX10_filled : MethodName := ⟨RX10, "filled", "(I)I"⟩
abbrev cX10_goOn : ByteArray := prog_12_method_48_code
def yX10_goOn : MethodName := ⟨RX10, "goOn", "(II)Z"⟩
abbrev cX10_lane : ByteArray := prog_12_method_49_code
def yX10_lane : MethodName := ⟨RX10, "lane", "(I)I"⟩
abbrev cX10_image : ByteArray := prog_12_method_50_code
def yX10_image : MethodName := ⟨RX10, "image", "(I)I"⟩
abbrev cX10_restore : ByteArray := prog_12_method_51_code
def yX10_restore : MethodName := ⟨RX10, "restore", "(I)I"⟩
abbrev cX10_demanded : ByteArray := prog_12_method_52_code
def yX10_demanded : MethodName := ⟨RX10, "demanded", "()I"⟩
abbrev cX10_count : ByteArray := prog_12_method_53_code
def yX10_count : MethodName := ⟨RX10, "count", "(I)I"⟩
def RJ6 : String := "java/lang/Integer"
def TJ6 : u_T := fun k => match k with
  | _ => ("", "", "", false)
def tyJ6 : Nat → FieldType := fun k => match k with
  | _ => .int
abbrev wsJ60 : List Cond := u_ws RJ6 TJ6 0
theorem nmJ6 : ∀ a, a < 0 → ∀ b, b < 0 → a ≠ b → (TJ6 a).2.1 ≠ (TJ6 b).2.1 := by decide +kernel
theorem tyJ6_ok : ∀ k, k < 0 → parseFieldDescriptor (TJ6 k).2.2.1 = some (tyJ6 k) := by decide +kernel
abbrev cJ6_bitCount_0f7a4 : ByteArray := prog_13_method_49_code
def yJ6_bitCount_0f7a4 : MethodName := ⟨RJ6, "bitCount", "(I)I"⟩
def RJ9 : String := "java/lang/Math"
def TJ9 : u_T := fun k => match k with
  | _ => ("", "", "", false)
def tyJ9 : Nat → FieldType := fun k => match k with
  | _ => .int
abbrev wsJ90 : List Cond := u_ws RJ9 TJ9 0
theorem nmJ9 : ∀ a, a < 0 → ∀ b, b < 0 → a ≠ b → (TJ9 a).2.1 ≠ (TJ9 b).2.1 := by decide +kernel
theorem tyJ9_ok : ∀ k, k < 0 → parseFieldDescriptor (TJ9 k).2.2.1 = some (tyJ9 k) := by decide +kernel
abbrev cJ9_max_7cf53 : ByteArray := prog_14_method_65_code
def yJ9_max_7cf53 : MethodName := ⟨RJ9, "max", "(II)I"⟩
abbrev cJ9_min_7cf53 : ByteArray := prog_14_method_69_code
def yJ9_min_7cf53 : MethodName := ⟨RJ9, "min", "(II)I"⟩
def RJ10 : String := "java/lang/System"
def TJ10 : u_T := fun k => match k with
  | _ => ("", "", "", false)
def tyJ10 : Nat → FieldType := fun k => match k with
  | _ => .int
abbrev wsJ100 : List Cond := u_ws RJ10 TJ10 0
theorem nmJ10 : ∀ a, a < 0 → ∀ b, b < 0 → a ≠ b → (TJ10 a).2.1 ≠ (TJ10 b).2.1 := by decide +kernel
theorem tyJ10_ok : ∀ k, k < 0 → parseFieldDescriptor (TJ10 k).2.2.1 = some (tyJ10 k) := by decide +kernel
def RL : String := "CarOrdersLaw"
abbrev cL_law : ByteArray := code
def yL_law : MethodName := ⟨RL, "law", "([I)Z"⟩
def wsX8_init : List Cond := .code yX8_init cX8_init 3 none :: ([.methodLink RX8 3 objectInit, .instanceMethod objectInit, .code objectInit ⟨#[0xb1]⟩ 1 none, .fieldLink RX8 9 "CarOrders$Walk" "cars" "I", .fieldLink RX8 15 "CarOrders$Walk" "known" "Z", .fieldLink RX8 19 "CarOrders$Walk" "plan" "LCarOrders$Plan;", .fieldLink RX8 23 "CarOrders$Walk" "row" "LCarOrders$Row;"] ++ wsX00 ++ wsX10 ++ wsX20 ++ wsX30)
abbrev vwCl : List vw_C := [(RX0, TX0, 7), (RX1, TX1, 7), (RX2, TX2, 11), (RX3, TX3, 6), (RX4, TX4, 2), (RX5, TX5, 5), (RX6, TX6, 6), (RX7, TX7, 3), (RX9, TX9, 11), (RX10, TX10, 16)]
