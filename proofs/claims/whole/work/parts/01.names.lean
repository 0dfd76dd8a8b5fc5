def RX0 : String := "StemMill$BoardSize"
def TX0 : u_T := fun k => match k with
  | 0 => ("StemMill$BoardSize", "thickness", "I", false)
  | 1 => ("StemMill$BoardSize", "width", "I", false)
  | _ => ("StemMill$BoardSize", "prices", "[I", true)
def tyX0 : Nat → FieldType := fun k => match k with
  | 0 => .int
  | 1 => .int
  | _ => .array .int
abbrev wsX00 : List Cond := u_ws RX0 TX0 3
theorem nmX0 : ∀ a, a < 3 → ∀ b, b < 3 → a ≠ b → (TX0 a).2.1 ≠ (TX0 b).2.1 := by decide +kernel
theorem tyX0_ok : ∀ k, k < 3 → parseFieldDescriptor (TX0 k).2.2.1 = some (tyX0 k) := by decide +kernel
abbrev cX0_init : ByteArray := prog_2_method_1_code
def yX0_init : MethodName := ⟨RX0, "<init>", "()V"⟩
abbrev cX0_isTold : ByteArray := prog_2_method_2_code
def yX0_isTold : MethodName := ⟨RX0, "isTold", "()Z"⟩
abbrev cX0_become : ByteArray := prog_2_method_3_code
def yX0_become : MethodName := ⟨RX0, "become", "(II)V"⟩
def RX1 : String := "StemMill$Bucking"
def TX1 : u_T := fun k => match k with
  | 0 => ("StemMill$Bucking", "stem", "LStemMill$Stem;", true)
  | 1 => ("StemMill$Bucking", "kinds", "[LStemMill$LogKind;", true)
  | 2 => ("StemMill$Bucking", "best", "[I", true)
  | 3 => ("StemMill$Bucking", "chosen", "[I", true)
  | 4 => ("StemMill$Bucking", "bucked", "LStemMill$Cutting;", false)
  | _ => ("StemMill$Bucking", "spare", "LStemMill$Cutting;", false)
def tyX1 : Nat → FieldType := fun k => match k with
  | 0 => .object "StemMill$Stem"
  | 1 => .array (.object "StemMill$LogKind")
  | 2 => .array .int
  | 3 => .array .int
  | 4 => .object "StemMill$Cutting"
  | _ => .object "StemMill$Cutting"
abbrev wsX10 : List Cond := u_ws RX1 TX1 6
theorem nmX1 : ∀ a, a < 6 → ∀ b, b < 6 → a ≠ b → (TX1 a).2.1 ≠ (TX1 b).2.1 := by decide +kernel
theorem tyX1_ok : ∀ k, k < 6 → parseFieldDescriptor (TX1 k).2.2.1 = some (tyX1 k) := by decide +kernel
abbrev cX1_init : ByteArray := prog_3_method_1_code
def yX1_init : MethodName := ⟨RX1, "<init>", "(I)V"⟩
abbrev cX1_cutBest : ByteArray := prog_3_method_2_code
def yX1_cutBest : MethodName := ⟨RX1, "cutBest", "()I"⟩
abbrev cX1_choose : ByteArray := prog_3_method_3_code
def yX1_choose : MethodName := ⟨RX1, "choose", "(I)V"⟩
abbrev cX1_cutAsTold : ByteArray := prog_3_method_4_code
def yX1_cutAsTold : MethodName := ⟨RX1, "cutAsTold", "(J)I"⟩
abbrev cX1_addLog : ByteArray := prog_3_method_5_code
def yX1_addLog : MethodName := ⟨RX1, "addLog", "(II)Z"⟩
abbrev cX1_priceFrom : ByteArray := prog_3_method_6_code
def yX1_priceFrom : MethodName := ⟨RX1, "priceFrom", "(ILStemMill$LogKind;)I"⟩
abbrev cX1_keepSpare : ByteArray := prog_3_method_7_code
def yX1_keepSpare : MethodName := ⟨RX1, "keepSpare", "()I"⟩
def RX2 : String := "StemMill$Chain"
def TX2 : u_T := fun k => match k with
  | 0 => ("StemMill$Chain", "steps", "[I", true)
  | 1 => ("StemMill$Chain", "prices", "[I", true)
  | 2 => ("StemMill$Chain", "limits", "[I", true)
  | _ => ("StemMill$Chain", "gains", "[I", true)
def tyX2 : Nat → FieldType := fun k => match k with
  | 0 => .array .int
  | 1 => .array .int
  | 2 => .array .int
  | _ => .array .int
abbrev wsX20 : List Cond := u_ws RX2 TX2 4
theorem nmX2 : ∀ a, a < 4 → ∀ b, b < 4 → a ≠ b → (TX2 a).2.1 ≠ (TX2 b).2.1 := by decide +kernel
theorem tyX2_ok : ∀ k, k < 4 → parseFieldDescriptor (TX2 k).2.2.1 = some (tyX2 k) := by decide +kernel
abbrev cX2_init : ByteArray := prog_4_method_1_code
def yX2_init : MethodName := ⟨RX2, "<init>", "()V"⟩
abbrev cX2_solve : ByteArray := prog_4_method_2_code
def yX2_solve : MethodName := ⟨RX2, "solve", "()I"⟩
abbrev cX2_lay : ByteArray := prog_4_method_3_code
def yX2_lay : MethodName := ⟨RX2, "lay", "(LStemMill$Line;)V"⟩
abbrev cX2_farthestLimit : ByteArray := prog_4_method_4_code
def yX2_farthestLimit : MethodName := ⟨RX2, "farthestLimit", "()I"⟩
abbrev cX2_reachOnFrom : ByteArray := prog_4_method_5_code
def yX2_reachOnFrom : MethodName := ⟨RX2, "reachOnFrom", "(I)V"⟩
abbrev cX2_mostFrom : ByteArray := prog_4_method_6_code
def yX2_mostFrom : MethodName := ⟨RX2, "mostFrom", "(I)I"⟩
abbrev cX2_lowestFrom : ByteArray := prog_4_method_7_code
def yX2_lowestFrom : MethodName := ⟨RX2, "lowestFrom", "(I)I"⟩
def RX3 : String := "StemMill$Cutting"
def TX3 : u_T := fun k => match k with
  | 0 => ("StemMill$Cutting", "count", "I", false)
  | 1 => ("StemMill$Cutting", "value", "I", false)
  | _ => ("StemMill$Cutting", "facts", "[I", true)
def tyX3 : Nat → FieldType := fun k => match k with
  | 0 => .int
  | 1 => .int
  | _ => .array .int
abbrev wsX30 : List Cond := u_ws RX3 TX3 3
theorem nmX3 : ∀ a, a < 3 → ∀ b, b < 3 → a ≠ b → (TX3 a).2.1 ≠ (TX3 b).2.1 := by decide +kernel
theorem tyX3_ok : ∀ k, k < 3 → parseFieldDescriptor (TX3 k).2.2.1 = some (tyX3 k) := by decide +kernel
abbrev cX3_init : ByteArray := prog_5_method_1_code
def yX3_init : MethodName := ⟨RX3, "<init>", "()V"⟩
abbrev cX3_clear : ByteArray := prog_5_method_2_code
def yX3_clear : MethodName := ⟨RX3, "clear", "()V"⟩
abbrev cX3_add : ByteArray := prog_5_method_3_code
def yX3_add : MethodName := ⟨RX3, "add", "(IIIII)V"⟩
abbrev cX3_fact : ByteArray := prog_5_method_4_code
def yX3_fact : MethodName := ⟨RX3, "fact", "(II)I"⟩
def RX4 : String := "StemMill$Line"
def TX4 : u_T := fun k => match k with
  | 0 => ("StemMill$Line", "count", "I", false)
  | 1 => ("StemMill$Line", "sizes", "[I", true)
  | _ => ("StemMill$Line", "places", "[I", true)
def tyX4 : Nat → FieldType := fun k => match k with
  | 0 => .int
  | 1 => .array .int
  | _ => .array .int
abbrev wsX40 : List Cond := u_ws RX4 TX4 3
theorem nmX4 : ∀ a, a < 3 → ∀ b, b < 3 → a ≠ b → (TX4 a).2.1 ≠ (TX4 b).2.1 := by decide +kernel
theorem tyX4_ok : ∀ k, k < 3 → parseFieldDescriptor (TX4 k).2.2.1 = some (tyX4 k) := by decide +kernel
abbrev cX4_init : ByteArray := prog_6_method_1_code
def yX4_init : MethodName := ⟨RX4, "<init>", "(I)V"⟩
abbrev cX4_add : ByteArray := prog_6_method_2_code
def yX4_add : MethodName := ⟨RX4, "add", "(II)V"⟩
abbrev cX4_countOf : ByteArray := prog_6_method_3_code
def yX4_countOf : MethodName := ⟨RX4, "countOf", "(I)I"⟩
def RX5 : String := "StemMill$LogKind"
def TX5 : u_T := fun k => match k with
  | 0 => ("StemMill$LogKind", "length", "I", false)
  | 1 => ("StemMill$LogKind", "leastTop", "I", false)
  | _ => ("StemMill$LogKind", "prices", "[I", true)
def tyX5 : Nat → FieldType := fun k => match k with
  | 0 => .int
  | 1 => .int
  | _ => .array .int
abbrev wsX50 : List Cond := u_ws RX5 TX5 3
theorem nmX5 : ∀ a, a < 3 → ∀ b, b < 3 → a ≠ b → (TX5 a).2.1 ≠ (TX5 b).2.1 := by decide +kernel
theorem tyX5_ok : ∀ k, k < 3 → parseFieldDescriptor (TX5 k).2.2.1 = some (tyX5 k) := by decide +kernel
abbrev cX5_init : ByteArray := prog_7_method_1_code
def yX5_init : MethodName := ⟨RX5, "<init>", "()V"⟩
abbrev cX5_isTold : ByteArray := prog_7_method_2_code
def yX5_isTold : MethodName := ⟨RX5, "isTold", "()Z"⟩
abbrev cX5_become : ByteArray := prog_7_method_3_code
def yX5_become : MethodName := ⟨RX5, "become", "(II)V"⟩
abbrev cX5_slot : ByteArray := prog_7_method_4_code
def yX5_slot : MethodName := ⟨RX5, "slot", "(II)I"⟩
def RX6 : String := "StemMill$Orders"
def TX6 : u_T := fun k => match k with
  | 0 => ("StemMill$Orders", "needs", "[I", true)
  | 1 => ("StemMill$Orders", "shortages", "[I", true)
  | _ => ("StemMill$Orders", "additions", "[I", true)
def tyX6 : Nat → FieldType := fun k => match k with
  | 0 => .array .int
  | 1 => .array .int
  | _ => .array .int
abbrev wsX60 : List Cond := u_ws RX6 TX6 3
theorem nmX6 : ∀ a, a < 3 → ∀ b, b < 3 → a ≠ b → (TX6 a).2.1 ≠ (TX6 b).2.1 := by decide +kernel
theorem tyX6_ok : ∀ k, k < 3 → parseFieldDescriptor (TX6 k).2.2.1 = some (tyX6 k) := by decide +kernel
abbrev cX6_init : ByteArray := prog_8_method_1_code
def yX6_init : MethodName := ⟨RX6, "<init>", "()V"⟩
abbrev cX6_additionFor : ByteArray := prog_8_method_2_code
def yX6_additionFor : MethodName := ⟨RX6, "additionFor", "(I)I"⟩
abbrev cX6_deliver : ByteArray := prog_8_method_3_code
def yX6_deliver : MethodName := ⟨RX6, "deliver", "(II)V"⟩
def RX7 : String := "StemMill$Pattern"
def TX7 : u_T := fun k => match k with
  | 0 => ("StemMill$Pattern", "height", "I", false)
  | 1 => ("StemMill$Pattern", "value", "I", false)
  | 2 => ("StemMill$Pattern", "row", "LStemMill$Line;", true)
  | 3 => ("StemMill$Pattern", "stack", "LStemMill$Line;", true)
  | _ => ("StemMill$Pattern", "prices", "[I", true)
def tyX7 : Nat → FieldType := fun k => match k with
  | 0 => .int
  | 1 => .int
  | 2 => .object "StemMill$Line"
  | 3 => .object "StemMill$Line"
  | _ => .array .int
abbrev wsX70 : List Cond := u_ws RX7 TX7 5
theorem nmX7 : ∀ a, a < 5 → ∀ b, b < 5 → a ≠ b → (TX7 a).2.1 ≠ (TX7 b).2.1 := by decide +kernel
theorem tyX7_ok : ∀ k, k < 5 → parseFieldDescriptor (TX7 k).2.2.1 = some (tyX7 k) := by decide +kernel
abbrev cX7_init : ByteArray := prog_9_method_1_code
def yX7_init : MethodName := ⟨RX7, "<init>", "()V"⟩
abbrev cX7_stacks : ByteArray := prog_9_method_2_code
def yX7_stacks : MethodName := ⟨RX7, "stacks", "()I"⟩
abbrev cX7_count : ByteArray := prog_9_method_3_code
def yX7_count : MethodName := ⟨RX7, "count", "()I"⟩
abbrev cX7_countOf : ByteArray := prog_9_method_4_code
def yX7_countOf : MethodName := ⟨RX7, "countOf", "(I)I"⟩
abbrev cX7_isBetterThan : ByteArray := prog_9_method_5_code
def yX7_isBetterThan : MethodName := ⟨RX7, "isBetterThan", "(LStemMill$Pattern;)Z"⟩
abbrev cX7_fact : ByteArray := prog_9_method_6_code
def yX7_fact : MethodName := ⟨RX7, "fact", "(II)I"⟩
abbrev cX7_factOf : ByteArray := prog_9_method_7_code
def yX7_factOf : MethodName := ⟨RX7, "factOf", "(LStemMill$Line;III)I"⟩
def RX8 : String := "StemMill$Sawing"
def TX8 : u_T := fun k => match k with
  | 0 => ("StemMill$Sawing", "sizes", "[LStemMill$BoardSize;", true)
  | 1 => ("StemMill$Sawing", "orders", "LStemMill$Orders;", true)
  | 2 => ("StemMill$Sawing", "heights", "[I", true)
  | 3 => ("StemMill$Sawing", "gap", "I", false)
  | 4 => ("StemMill$Sawing", "chain", "LStemMill$Chain;", true)
  | 5 => ("StemMill$Sawing", "reaches", "[I", true)
  | 6 => ("StemMill$Sawing", "latest", "LStemMill$Pattern;", false)
  | _ => ("StemMill$Sawing", "trial", "LStemMill$Pattern;", false)
def tyX8 : Nat → FieldType := fun k => match k with
  | 0 => .array (.object "StemMill$BoardSize")
  | 1 => .object "StemMill$Orders"
  | 2 => .array .int
  | 3 => .int
  | 4 => .object "StemMill$Chain"
  | 5 => .array .int
  | 6 => .object "StemMill$Pattern"
  | _ => .object "StemMill$Pattern"
abbrev wsX80 : List Cond := u_ws RX8 TX8 8
theorem nmX8 : ∀ a, a < 8 → ∀ b, b < 8 → a ≠ b → (TX8 a).2.1 ≠ (TX8 b).2.1 := by decide +kernel
theorem tyX8_ok : ∀ k, k < 8 → parseFieldDescriptor (TX8 k).2.2.1 = some (tyX8 k) := by decide +kernel
abbrev cX8_init : ByteArray := prog_10_method_1_code
def yX8_init : MethodName := ⟨RX8, "<init>", "()V"⟩
abbrev cX8_sawThrough : ByteArray := prog_10_method_2_code
def yX8_sawThrough : MethodName := ⟨RX8, "sawThrough", "(II)I"⟩
abbrev cX8_prepare : ByteArray := prog_10_method_3_code
def yX8_prepare : MethodName := ⟨RX8, "prepare", "(II)V"⟩
abbrev cX8_tryWithoutCant : ByteArray := prog_10_method_4_code
def yX8_tryWithoutCant : MethodName := ⟨RX8, "tryWithoutCant", "()V"⟩
abbrev cX8_tryHeight : ByteArray := prog_10_method_5_code
def yX8_tryHeight : MethodName := ⟨RX8, "tryHeight", "(II)Z"⟩
abbrev cX8_stackFrom : ByteArray := prog_10_method_6_code
def yX8_stackFrom : MethodName := ⟨RX8, "stackFrom", "(I)I"⟩
abbrev cX8_keepTrial : ByteArray := prog_10_method_7_code
def yX8_keepTrial : MethodName := ⟨RX8, "keepTrial", "()V"⟩
def RX9 : String := "StemMill$Stem"
def TX9 : u_T := fun k => match k with
  | 0 => ("StemMill$Stem", "last", "I", true)
  | 1 => ("StemMill$Stem", "diameters", "[I", true)
  | 2 => ("StemMill$Stem", "grades", "[I", true)
  | 3 => ("StemMill$Stem", "defects", "I", false)
  | 4 => ("StemMill$Stem", "tops", "[I", true)
  | _ => ("StemMill$Stem", "worst", "[I", true)
def tyX9 : Nat → FieldType := fun k => match k with
  | 0 => .int
  | 1 => .array .int
  | 2 => .array .int
  | 3 => .int
  | 4 => .array .int
  | _ => .array .int
abbrev wsX90 : List Cond := u_ws RX9 TX9 6
theorem nmX9 : ∀ a, a < 6 → ∀ b, b < 6 → a ≠ b → (TX9 a).2.1 ≠ (TX9 b).2.1 := by decide +kernel
theorem tyX9_ok : ∀ k, k < 6 → parseFieldDescriptor (TX9 k).2.2.1 = some (tyX9 k) := by decide +kernel
abbrev cX9_init : ByteArray := prog_11_method_1_code
def yX9_init : MethodName := ⟨RX9, "<init>", "(I)V"⟩
abbrev cX9_spoil : ByteArray := prog_11_method_2_code
def yX9_spoil : MethodName := ⟨RX9, "spoil", "(III)Z"⟩
abbrev cX9_lookFrom : ByteArray := prog_11_method_3_code
def yX9_lookFrom : MethodName := ⟨RX9, "lookFrom", "(I)V"⟩
def RX10 : String := "StemMill"
def TX10 : u_T := fun k => match k with
  | 0 => ("StemMill", "bucking", "LStemMill$Bucking;", true)
  | 1 => ("StemMill", "stem", "LStemMill$Stem;", true)
  | 2 => ("StemMill", "kinds", "[LStemMill$LogKind;", true)
  | 3 => ("StemMill", "sawing", "LStemMill$Sawing;", true)
  | 4 => ("StemMill", "sizes", "[LStemMill$BoardSize;", true)
  | _ => ("StemMill", "orders", "LStemMill$Orders;", true)
def tyX10 : Nat → FieldType := fun k => match k with
  | 0 => .object "StemMill$Bucking"
  | 1 => .object "StemMill$Stem"
  | 2 => .array (.object "StemMill$LogKind")
  | 3 => .object "StemMill$Sawing"
  | 4 => .array (.object "StemMill$BoardSize")
  | _ => .object "StemMill$Orders"
abbrev wsX100 : List Cond := u_ws RX10 TX10 6
theorem nmX10 : ∀ a, a < 6 → ∀ b, b < 6 → a ≠ b → (TX10 a).2.1 ≠ (TX10 b).2.1 := by decide +kernel
theorem tyX10_ok : ∀ k, k < 6 → parseFieldDescriptor (TX10 k).2.2.1 = some (tyX10 k) := by decide +kernel
abbrev cX10_init : ByteArray := prog_1_method_1_code
def yX10_init : MethodName := ⟨RX10, "<init>", "(I)V"⟩
abbrev cX10_diameter : ByteArray := prog_1_method_2_code
def yX10_diameter : MethodName := ⟨RX10, "diameter", "(II)Z"⟩
abbrev cX10_defect : ByteArray := prog_1_method_3_code
def yX10_defect : MethodName := ⟨RX10, "defect", "(III)Z"⟩
abbrev cX10_logKind : ByteArray := prog_1_method_4_code
def yX10_logKind : MethodName := ⟨RX10, "logKind", "(III)Z"⟩
abbrev cX10_priceOf : ByteArray := prog_1_method_5_code
def yX10_priceOf : MethodName := ⟨RX10, "priceOf", "(IIII)Z"⟩
abbrev cX10_buck : ByteArray := prog_1_method_6_code
def yX10_buck : MethodName := ⟨RX10, "buck", "()I"⟩
abbrev cX10_byHand : ByteArray := prog_1_method_7_code
def yX10_byHand : MethodName := ⟨RX10, "byHand", "(J)I"⟩
abbrev cX10_logs : ByteArray := prog_1_method_8_code
def yX10_logs : MethodName := ⟨RX10, "logs", "()I"⟩
abbrev cX10_log : ByteArray := prog_1_method_9_code
def yX10_log : MethodName := ⟨RX10, "log", "(II)I"⟩
abbrev cX10_size : ByteArray := prog_1_method_10_code
def yX10_size : MethodName := ⟨RX10, "size", "(III)Z"⟩
abbrev cX10_boardPrice : ByteArray := prog_1_method_11_code
def yX10_boardPrice : MethodName := ⟨RX10, "boardPrice", "(III)Z"⟩
abbrev cX10_height : ByteArray := prog_1_method_12_code
def yX10_height : MethodName := ⟨RX10, "height", "(II)Z"⟩
abbrev cX10_kerf : ByteArray := prog_1_method_13_code
def yX10_kerf : MethodName := ⟨RX10, "kerf", "(I)Z"⟩
abbrev cX10_need : ByteArray := prog_1_method_14_code
def yX10_need : MethodName := ⟨RX10, "need", "(II)Z"⟩
abbrev cX10_ladder : ByteArray := prog_1_method_15_code
def yX10_ladder : MethodName := ⟨RX10, "ladder", "(III)Z"⟩
abbrev cX10_needNow : ByteArray := prog_1_method_16_code
def yX10_needNow : MethodName := ⟨RX10, "needNow", "(I)I"⟩
abbrev cX10_saw : ByteArray := prog_1_method_17_code
def yX10_saw : MethodName := ⟨RX10, "saw", "(I)I"⟩
abbrev cX10_boards : ByteArray := prog_1_method_18_code
def yX10_boards : MethodName := ⟨RX10, "boards", "()I"⟩
abbrev cX10_board : ByteArray := prog_1_method_19_code
def yX10_board : MethodName := ⟨RX10, "board", "(II)I"⟩
abbrev cX10_cant : ByteArray := prog_1_method_20_code
def yX10_cant : MethodName := ⟨RX10, "cant", "()I"⟩
abbrev cX10_fits : ByteArray := prog_1_method_21_code
def yX10_fits : MethodName := ⟨RX10, "fits", "(III)Z"⟩
abbrev cX10_isToldSize : ByteArray := prog_1_method_22_code
def yX10_isToldSize : MethodName := ⟨RX10, "isToldSize", "(I)Z"⟩
abbrev cX10_within : ByteArray := prog_1_method_23_code
def yX10_within : MethodName := ⟨RX10, "within", "(III)Z"⟩
abbrev cX10_room : ByteArray := prog_1_method_24_code
def yX10_room : MethodName := ⟨RX10, "room", "(II)I"⟩
def RX11 : String := "StemMillModel"
def TX11 : u_T := fun k => match k with
  | 0 => ("StemMillModel", "thrown", "I", false)
  | 1 => ("StemMillModel", "last", "I", true)
  | 2 => ("StemMillModel", "diameters", "[I", true)
  | 3 => ("StemMillModel", "defects", "I", false)
  | 4 => ("StemMillModel", "defectFrom", "[I", true)
  | 5 => ("StemMillModel", "defectTo", "[I", true)
  | 6 => ("StemMillModel", "defectGrade", "[I", true)
  | 7 => ("StemMillModel", "kindLength", "[I", true)
  | 8 => ("StemMillModel", "kindTop", "[I", true)
  | 9 => ("StemMillModel", "kindPrice", "[I", true)
  | 10 => ("StemMillModel", "logs", "I", false)
  | 11 => ("StemMillModel", "logPart", "[I", true)
  | 12 => ("StemMillModel", "thick", "[I", true)
  | 13 => ("StemMillModel", "wide", "[I", true)
  | 14 => ("StemMillModel", "boardPrices", "[I", true)
  | 15 => ("StemMillModel", "needs", "[I", true)
  | 16 => ("StemMillModel", "heights", "[I", true)
  | 17 => ("StemMillModel", "kerf", "I", false)
  | 18 => ("StemMillModel", "shortage", "[I", true)
  | 19 => ("StemMillModel", "addition", "[I", true)
  | 20 => ("StemMillModel", "boards", "I", false)
  | 21 => ("StemMillModel", "cant", "I", false)
  | 22 => ("StemMillModel", "board", "[I", true)
  | 23 => ("StemMillModel", "price", "[I", true)
  | 24 => ("StemMillModel", "row", "[I", true)
  | 25 => ("StemMillModel", "stack", "[I", true)
  | 26 => ("StemMillModel", "best", "[I", true)
  | 27 => ("StemMillModel", "value", "[I", true)
  | _ => ("StemMillModel", "leads", "[Z", true)
def tyX11 : Nat → FieldType := fun k => match k with
  | 0 => .int
  | 1 => .int
  | 2 => .array .int
  | 3 => .int
  | 4 => .array .int
  | 5 => .array .int
  | 6 => .array .int
  | 7 => .array .int
  | 8 => .array .int
  | 9 => .array .int
  | 10 => .int
  | 11 => .array .int
  | 12 => .array .int
  | 13 => .array .int
  | 14 => .array .int
  | 15 => .array .int
  | 16 => .array .int
  | 17 => .int
  | 18 => .array .int
  | 19 => .array .int
  | 20 => .int
  | 21 => .int
  | 22 => .array .int
  | 23 => .array .int
  | 24 => .array .int
  | 25 => .array .int
  | 26 => .array .int
  | 27 => .array .int
  | _ => .array .boolean
abbrev wsX110 : List Cond := u_ws RX11 TX11 29
theorem nmX11 : ∀ a, a < 29 → ∀ b, b < 29 → a ≠ b → (TX11 a).2.1 ≠ (TX11 b).2.1 := by decide +kernel
theorem tyX11_ok : ∀ k, k < 29 → parseFieldDescriptor (TX11 k).2.2.1 = some (tyX11 k) := by decide +kernel
abbrev cX11_init : ByteArray := prog_13_method_1_code
def yX11_init : MethodName := ⟨RX11, "<init>", "(I)V"⟩
abbrev cX11_thrown : ByteArray := prog_13_method_2_code
def yX11_thrown : MethodName := ⟨RX11, "thrown", "()I"⟩
abbrev cX11_in : ByteArray := prog_13_method_3_code
def yX11_in : MethodName := ⟨RX11, "in", "(III)Z"⟩
abbrev cX11_diameter : ByteArray := prog_13_method_4_code
def yX11_diameter : MethodName := ⟨RX11, "diameter", "(II)Z"⟩
abbrev cX11_defect : ByteArray := prog_13_method_5_code
def yX11_defect : MethodName := ⟨RX11, "defect", "(III)Z"⟩
abbrev cX11_logKind : ByteArray := prog_13_method_6_code
def yX11_logKind : MethodName := ⟨RX11, "logKind", "(III)Z"⟩
abbrev cX11_priceOf : ByteArray := prog_13_method_7_code
def yX11_priceOf : MethodName := ⟨RX11, "priceOf", "(IIII)Z"⟩
abbrev cX11_topOf : ByteArray := prog_13_method_8_code
def yX11_topOf : MethodName := ⟨RX11, "topOf", "(II)I"⟩
abbrev cX11_gradeOf : ByteArray := prog_13_method_9_code
def yX11_gradeOf : MethodName := ⟨RX11, "gradeOf", "(II)I"⟩
abbrev cX11_isAllowed : ByteArray := prog_13_method_10_code
def yX11_isAllowed : MethodName := ⟨RX11, "isAllowed", "(II)Z"⟩
abbrev cX11_worth : ByteArray := prog_13_method_11_code
def yX11_worth : MethodName := ⟨RX11, "worth", "(II)I"⟩
abbrev cX11_add : ByteArray := prog_13_method_12_code
def yX11_add : MethodName := ⟨RX11, "add", "(II)V"⟩
abbrev cX11_buck : ByteArray := prog_13_method_13_code
def yX11_buck : MethodName := ⟨RX11, "buck", "()I"⟩
abbrev cX11_steps : ByteArray := prog_13_method_14_code
def yX11_steps : MethodName := ⟨RX11, "steps", "(II)Z"⟩
abbrev cX11_byHand : ByteArray := prog_13_method_15_code
def yX11_byHand : MethodName := ⟨RX11, "byHand", "(J)I"⟩
abbrev cX11_logs : ByteArray := prog_13_method_16_code
def yX11_logs : MethodName := ⟨RX11, "logs", "()I"⟩
abbrev cX11_log : ByteArray := prog_13_method_17_code
def yX11_log : MethodName := ⟨RX11, "log", "(II)I"⟩
abbrev cX11_size : ByteArray := prog_13_method_18_code
def yX11_size : MethodName := ⟨RX11, "size", "(III)Z"⟩
abbrev cX11_boardPrice : ByteArray := prog_13_method_19_code
def yX11_boardPrice : MethodName := ⟨RX11, "boardPrice", "(III)Z"⟩
abbrev cX11_height : ByteArray := prog_13_method_20_code
def yX11_height : MethodName := ⟨RX11, "height", "(II)Z"⟩
abbrev cX11_kerf : ByteArray := prog_13_method_21_code
def yX11_kerf : MethodName := ⟨RX11, "kerf", "(I)Z"⟩
abbrev cX11_need : ByteArray := prog_13_method_22_code
def yX11_need : MethodName := ⟨RX11, "need", "(II)Z"⟩
abbrev cX11_ladder : ByteArray := prog_13_method_23_code
def yX11_ladder : MethodName := ⟨RX11, "ladder", "(III)Z"⟩
abbrev cX11_needNow : ByteArray := prog_13_method_24_code
def yX11_needNow : MethodName := ⟨RX11, "needNow", "(I)I"⟩
abbrev cX11_prices : ByteArray := prog_13_method_25_code
def yX11_prices : MethodName := ⟨RX11, "prices", "(I)V"⟩
abbrev cX11_isWithin : ByteArray := prog_13_method_26_code
def yX11_isWithin : MethodName := ⟨RX11, "isWithin", "(III)Z"⟩
abbrev cX11_beside : ByteArray := prog_13_method_27_code
def yX11_beside : MethodName := ⟨RX11, "beside", "(IIII)I"⟩
abbrev cX11_above : ByteArray := prog_13_method_28_code
def yX11_above : MethodName := ⟨RX11, "above", "(III)I"⟩
abbrev cX11_step : ByteArray := prog_13_method_29_code
def yX11_step : MethodName := ⟨RX11, "step", "(ZIIII)I"⟩
abbrev cX11_sequence : ByteArray := prog_13_method_30_code
def yX11_sequence : MethodName := ⟨RX11, "sequence", "(ZIII[I)I"⟩
abbrev cX11_isBest : ByteArray := prog_13_method_31_code
def yX11_isBest : MethodName := ⟨RX11, "isBest", "(ZIIII)Z"⟩
abbrev cX11_saw : ByteArray := prog_13_method_32_code
def yX11_saw : MethodName := ⟨RX11, "saw", "(I)I"⟩
abbrev cX11_put : ByteArray := prog_13_method_33_code
def yX11_put : MethodName := ⟨RX11, "put", "(III)V"⟩
abbrev cX11_lay : ByteArray := prog_13_method_34_code
def yX11_lay : MethodName := ⟨RX11, "lay", "(I)V"⟩
abbrev cX11_boards : ByteArray := prog_13_method_35_code
def yX11_boards : MethodName := ⟨RX11, "boards", "()I"⟩
abbrev cX11_board : ByteArray := prog_13_method_36_code
def yX11_board : MethodName := ⟨RX11, "board", "(II)I"⟩
abbrev cX11_cant : ByteArray := prog_13_method_37_code
def yX11_cant : MethodName := ⟨RX11, "cant", "()I"⟩
abbrev cX11_fits : ByteArray := prog_13_method_38_code
def yX11_fits : MethodName := ⟨RX11, "fits", "(III)Z"⟩
def RJ9 : String := "java/lang/Math"
def TJ9 : u_T := fun k => match k with
  | _ => ("", "", "", false)
def tyJ9 : Nat → FieldType := fun k => match k with
  | _ => .int
abbrev wsJ90 : List Cond := u_ws RJ9 TJ9 0
theorem nmJ9 : ∀ a, a < 0 → ∀ b, b < 0 → a ≠ b → (TJ9 a).2.1 ≠ (TJ9 b).2.1 := by decide +kernel
theorem tyJ9_ok : ∀ k, k < 0 → parseFieldDescriptor (TJ9 k).2.2.1 = some (tyJ9 k) := by decide +kernel
abbrev cJ9_max_7cf53 : ByteArray := prog_15_method_65_code
def yJ9_max_7cf53 : MethodName := ⟨RJ9, "max", "(II)I"⟩
abbrev cJ9_min_7cf53 : ByteArray := prog_15_method_69_code
def yJ9_min_7cf53 : MethodName := ⟨RJ9, "min", "(II)I"⟩
def RJ7 : String := "java/util/Arrays"
def TJ7 : u_T := fun k => match k with
  | _ => ("", "", "", false)
def tyJ7 : Nat → FieldType := fun k => match k with
  | _ => .int
abbrev wsJ70 : List Cond := u_ws RJ7 TJ7 0
theorem nmJ7 : ∀ a, a < 0 → ∀ b, b < 0 → a ≠ b → (TJ7 a).2.1 ≠ (TJ7 b).2.1 := by decide +kernel
theorem tyJ7_ok : ∀ k, k < 0 → parseFieldDescriptor (TJ7 k).2.2.1 = some (tyJ7 k) := by decide +kernel
abbrev cJ7_fill_53178 : ByteArray := prog_18_method_103_code
def yJ7_fill_53178 : MethodName := ⟨RJ7, "fill", "([II)V"⟩
def RL : String := "StemMillLaw"
abbrev cL_cell : ByteArray := method_2_code
def yL_cell : MethodName := ⟨RL, "cell", "([II)I"⟩
abbrev cL_log : ByteArray := method_3_code
def yL_log : MethodName := ⟨RL, "log", "(LStemMill;II[J)I"⟩
abbrev cL_saw : ByteArray := method_4_code
def yL_saw : MethodName := ⟨RL, "saw", "(LStemMill;I[J)I"⟩
abbrev cL_board : ByteArray := method_5_code
def yL_board : MethodName := ⟨RL, "board", "(LStemMill;II[J)I"⟩
abbrev cL_law : ByteArray := code
def yL_law : MethodName := ⟨RL, "law", "([I)Z"⟩
/-- the words that every method of the system rests on: those of the tables that stay true while the machine runs -/
def zt_W : List Cond := lw_tbl.filter goodWord
theorem zt_ok : ∀ w ∈ zt_W, w ∈ zt_W ∧ ((w.onTables && w.keeps) = true ∨ ∃ ty, w = .arrayClass ty) := fun _ h => ⟨h, good_of_word (List.mem_filter.mp h).2⟩
theorem zt_mem {w : Cond} (i : Nat) (h : lw_tbl[i]? = some w) (hg : goodWord w = true) : w ∈ zt_W := List.mem_filter.mpr ⟨List.mem_of_getElem? h, hg⟩
/-- the classes whose objects the world holds -/
abbrev zt_cl : List vw_C := [(RX0, TX0, 3), (RX1, TX1, 6), (RX2, TX2, 4), (RX3, TX3, 3), (RX4, TX4, 3), (RX5, TX5, 3), (RX6, TX6, 3), (RX7, TX7, 5), (RX8, TX8, 8), (RX9, TX9, 6), (RX10, TX10, 6), (RX11, TX11, 29)]
abbrev zt_C3 : String := "StemMill$LogKind"
abbrev zt_C4 : String := "StemMill$BoardSize"
theorem zt_e0 : u_ws RX0 TX0 3 = [Cond.lays "StemMill$BoardSize" "StemMill$BoardSize" "thickness" "I", Cond.lays "StemMill$BoardSize" "StemMill$BoardSize" "width" "I", Cond.laysFinal "StemMill$BoardSize" "StemMill$BoardSize" "prices" "[I"] := by decide +kernel
theorem zt_inX0 : ∀ w ∈ u_ws RX0 TX0 3, w ∈ zt_W := by
  rw [zt_e0]
  exact List.forall_mem_cons.mpr ⟨(zt_mem 272 (by decide +kernel) rfl), List.forall_mem_cons.mpr ⟨(zt_mem 274 (by decide +kernel) rfl), List.forall_mem_cons.mpr ⟨(zt_mem 276 (by decide +kernel) rfl), fun _ h => absurd h List.not_mem_nil⟩⟩⟩
theorem zt_e1 : u_ws RX1 TX1 6 = [Cond.laysFinal "StemMill$Bucking" "StemMill$Bucking" "stem" "LStemMill$Stem;", Cond.laysFinal "StemMill$Bucking" "StemMill$Bucking" "kinds" "[LStemMill$LogKind;", Cond.laysFinal "StemMill$Bucking" "StemMill$Bucking" "best" "[I", Cond.laysFinal "StemMill$Bucking" "StemMill$Bucking" "chosen" "[I", Cond.lays "StemMill$Bucking" "StemMill$Bucking" "bucked" "LStemMill$Cutting;", Cond.lays "StemMill$Bucking" "StemMill$Bucking" "spare" "LStemMill$Cutting;"] := by decide +kernel
theorem zt_inX1 : ∀ w ∈ u_ws RX1 TX1 6, w ∈ zt_W := by
  rw [zt_e1]
  exact List.forall_mem_cons.mpr ⟨(zt_mem 145 (by decide +kernel) rfl), List.forall_mem_cons.mpr ⟨(zt_mem 147 (by decide +kernel) rfl), List.forall_mem_cons.mpr ⟨(zt_mem 149 (by decide +kernel) rfl), List.forall_mem_cons.mpr ⟨(zt_mem 151 (by decide +kernel) rfl), List.forall_mem_cons.mpr ⟨(zt_mem 153 (by decide +kernel) rfl), List.forall_mem_cons.mpr ⟨(zt_mem 155 (by decide +kernel) rfl), fun _ h => absurd h List.not_mem_nil⟩⟩⟩⟩⟩⟩
theorem zt_e2 : u_ws RX2 TX2 4 = [Cond.laysFinal "StemMill$Chain" "StemMill$Chain" "steps" "[I", Cond.laysFinal "StemMill$Chain" "StemMill$Chain" "prices" "[I", Cond.laysFinal "StemMill$Chain" "StemMill$Chain" "limits" "[I", Cond.laysFinal "StemMill$Chain" "StemMill$Chain" "gains" "[I"] := by decide +kernel
theorem zt_inX2 : ∀ w ∈ u_ws RX2 TX2 4, w ∈ zt_W := by
  rw [zt_e2]
  exact List.forall_mem_cons.mpr ⟨(zt_mem 198 (by decide +kernel) rfl), List.forall_mem_cons.mpr ⟨(zt_mem 200 (by decide +kernel) rfl), List.forall_mem_cons.mpr ⟨(zt_mem 202 (by decide +kernel) rfl), List.forall_mem_cons.mpr ⟨(zt_mem 204 (by decide +kernel) rfl), fun _ h => absurd h List.not_mem_nil⟩⟩⟩⟩
theorem zt_e3 : u_ws RX3 TX3 3 = [Cond.lays "StemMill$Cutting" "StemMill$Cutting" "count" "I", Cond.lays "StemMill$Cutting" "StemMill$Cutting" "value" "I", Cond.laysFinal "StemMill$Cutting" "StemMill$Cutting" "facts" "[I"] := by decide +kernel
theorem zt_inX3 : ∀ w ∈ u_ws RX3 TX3 3, w ∈ zt_W := by
  rw [zt_e3]
  exact List.forall_mem_cons.mpr ⟨(zt_mem 79 (by decide +kernel) rfl), List.forall_mem_cons.mpr ⟨(zt_mem 81 (by decide +kernel) rfl), List.forall_mem_cons.mpr ⟨(zt_mem 83 (by decide +kernel) rfl), fun _ h => absurd h List.not_mem_nil⟩⟩⟩
theorem zt_e4 : u_ws RX4 TX4 3 = [Cond.lays "StemMill$Line" "StemMill$Line" "count" "I", Cond.laysFinal "StemMill$Line" "StemMill$Line" "sizes" "[I", Cond.laysFinal "StemMill$Line" "StemMill$Line" "places" "[I"] := by decide +kernel
theorem zt_inX4 : ∀ w ∈ u_ws RX4 TX4 3, w ∈ zt_W := by
  rw [zt_e4]
  exact List.forall_mem_cons.mpr ⟨(zt_mem 229 (by decide +kernel) rfl), List.forall_mem_cons.mpr ⟨(zt_mem 231 (by decide +kernel) rfl), List.forall_mem_cons.mpr ⟨(zt_mem 233 (by decide +kernel) rfl), fun _ h => absurd h List.not_mem_nil⟩⟩⟩
theorem zt_e5 : u_ws RX5 TX5 3 = [Cond.lays "StemMill$LogKind" "StemMill$LogKind" "length" "I", Cond.lays "StemMill$LogKind" "StemMill$LogKind" "leastTop" "I", Cond.laysFinal "StemMill$LogKind" "StemMill$LogKind" "prices" "[I"] := by decide +kernel
theorem zt_inX5 : ∀ w ∈ u_ws RX5 TX5 3, w ∈ zt_W := by
  rw [zt_e5]
  exact List.forall_mem_cons.mpr ⟨(zt_mem 129 (by decide +kernel) rfl), List.forall_mem_cons.mpr ⟨(zt_mem 131 (by decide +kernel) rfl), List.forall_mem_cons.mpr ⟨(zt_mem 133 (by decide +kernel) rfl), fun _ h => absurd h List.not_mem_nil⟩⟩⟩
theorem zt_e6 : u_ws RX6 TX6 3 = [Cond.laysFinal "StemMill$Orders" "StemMill$Orders" "needs" "[I", Cond.laysFinal "StemMill$Orders" "StemMill$Orders" "shortages" "[I", Cond.laysFinal "StemMill$Orders" "StemMill$Orders" "additions" "[I"] := by decide +kernel
theorem zt_inX6 : ∀ w ∈ u_ws RX6 TX6 3, w ∈ zt_W := by
  rw [zt_e6]
  exact List.forall_mem_cons.mpr ⟨(zt_mem 178 (by decide +kernel) rfl), List.forall_mem_cons.mpr ⟨(zt_mem 180 (by decide +kernel) rfl), List.forall_mem_cons.mpr ⟨(zt_mem 182 (by decide +kernel) rfl), fun _ h => absurd h List.not_mem_nil⟩⟩⟩
theorem zt_e7 : u_ws RX7 TX7 5 = [Cond.lays "StemMill$Pattern" "StemMill$Pattern" "height" "I", Cond.lays "StemMill$Pattern" "StemMill$Pattern" "value" "I", Cond.laysFinal "StemMill$Pattern" "StemMill$Pattern" "row" "LStemMill$Line;", Cond.laysFinal "StemMill$Pattern" "StemMill$Pattern" "stack" "LStemMill$Line;", Cond.laysFinal "StemMill$Pattern" "StemMill$Pattern" "prices" "[I"] := by decide +kernel
theorem zt_inX7 : ∀ w ∈ u_ws RX7 TX7 5, w ∈ zt_W := by
  rw [zt_e7]
  exact List.forall_mem_cons.mpr ⟨(zt_mem 247 (by decide +kernel) rfl), List.forall_mem_cons.mpr ⟨(zt_mem 249 (by decide +kernel) rfl), List.forall_mem_cons.mpr ⟨(zt_mem 251 (by decide +kernel) rfl), List.forall_mem_cons.mpr ⟨(zt_mem 253 (by decide +kernel) rfl), List.forall_mem_cons.mpr ⟨(zt_mem 255 (by decide +kernel) rfl), fun _ h => absurd h List.not_mem_nil⟩⟩⟩⟩⟩
theorem zt_e8 : u_ws RX8 TX8 8 = [Cond.laysFinal "StemMill$Sawing" "StemMill$Sawing" "sizes" "[LStemMill$BoardSize;", Cond.laysFinal "StemMill$Sawing" "StemMill$Sawing" "orders" "LStemMill$Orders;", Cond.laysFinal "StemMill$Sawing" "StemMill$Sawing" "heights" "[I", Cond.lays "StemMill$Sawing" "StemMill$Sawing" "gap" "I", Cond.laysFinal "StemMill$Sawing" "StemMill$Sawing" "chain" "LStemMill$Chain;", Cond.laysFinal "StemMill$Sawing" "StemMill$Sawing" "reaches" "[I", Cond.lays "StemMill$Sawing" "StemMill$Sawing" "latest" "LStemMill$Pattern;", Cond.lays "StemMill$Sawing" "StemMill$Sawing" "trial" "LStemMill$Pattern;"] := by decide +kernel
theorem zt_inX8 : ∀ w ∈ u_ws RX8 TX8 8, w ∈ zt_W := by
  rw [zt_e8]
  exact List.forall_mem_cons.mpr ⟨(zt_mem 292 (by decide +kernel) rfl), List.forall_mem_cons.mpr ⟨(zt_mem 294 (by decide +kernel) rfl), List.forall_mem_cons.mpr ⟨(zt_mem 296 (by decide +kernel) rfl), List.forall_mem_cons.mpr ⟨(zt_mem 298 (by decide +kernel) rfl), List.forall_mem_cons.mpr ⟨(zt_mem 300 (by decide +kernel) rfl), List.forall_mem_cons.mpr ⟨(zt_mem 302 (by decide +kernel) rfl), List.forall_mem_cons.mpr ⟨(zt_mem 304 (by decide +kernel) rfl), List.forall_mem_cons.mpr ⟨(zt_mem 306 (by decide +kernel) rfl), fun _ h => absurd h List.not_mem_nil⟩⟩⟩⟩⟩⟩⟩⟩
theorem zt_e9 : u_ws RX9 TX9 6 = [Cond.laysFinal "StemMill$Stem" "StemMill$Stem" "last" "I", Cond.laysFinal "StemMill$Stem" "StemMill$Stem" "diameters" "[I", Cond.laysFinal "StemMill$Stem" "StemMill$Stem" "grades" "[I", Cond.lays "StemMill$Stem" "StemMill$Stem" "defects" "I", Cond.laysFinal "StemMill$Stem" "StemMill$Stem" "tops" "[I", Cond.laysFinal "StemMill$Stem" "StemMill$Stem" "worst" "[I"] := by decide +kernel
theorem zt_inX9 : ∀ w ∈ u_ws RX9 TX9 6, w ∈ zt_W := by
  rw [zt_e9]
  exact List.forall_mem_cons.mpr ⟨(zt_mem 104 (by decide +kernel) rfl), List.forall_mem_cons.mpr ⟨(zt_mem 106 (by decide +kernel) rfl), List.forall_mem_cons.mpr ⟨(zt_mem 108 (by decide +kernel) rfl), List.forall_mem_cons.mpr ⟨(zt_mem 110 (by decide +kernel) rfl), List.forall_mem_cons.mpr ⟨(zt_mem 112 (by decide +kernel) rfl), List.forall_mem_cons.mpr ⟨(zt_mem 114 (by decide +kernel) rfl), fun _ h => absurd h List.not_mem_nil⟩⟩⟩⟩⟩⟩
theorem zt_e10 : u_ws RX10 TX10 6 = [Cond.laysFinal "StemMill" "StemMill" "bucking" "LStemMill$Bucking;", Cond.laysFinal "StemMill" "StemMill" "stem" "LStemMill$Stem;", Cond.laysFinal "StemMill" "StemMill" "kinds" "[LStemMill$LogKind;", Cond.laysFinal "StemMill" "StemMill" "sawing" "LStemMill$Sawing;", Cond.laysFinal "StemMill" "StemMill" "sizes" "[LStemMill$BoardSize;", Cond.laysFinal "StemMill" "StemMill" "orders" "LStemMill$Orders;"] := by decide +kernel
theorem zt_inX10 : ∀ w ∈ u_ws RX10 TX10 6, w ∈ zt_W := by
  rw [zt_e10]
  exact List.forall_mem_cons.mpr ⟨(zt_mem 315 (by decide +kernel) rfl), List.forall_mem_cons.mpr ⟨(zt_mem 317 (by decide +kernel) rfl), List.forall_mem_cons.mpr ⟨(zt_mem 319 (by decide +kernel) rfl), List.forall_mem_cons.mpr ⟨(zt_mem 321 (by decide +kernel) rfl), List.forall_mem_cons.mpr ⟨(zt_mem 323 (by decide +kernel) rfl), List.forall_mem_cons.mpr ⟨(zt_mem 325 (by decide +kernel) rfl), fun _ h => absurd h List.not_mem_nil⟩⟩⟩⟩⟩⟩
theorem zt_e11 : u_ws RX11 TX11 29 = [Cond.lays "StemMillModel" "StemMillModel" "thrown" "I", Cond.laysFinal "StemMillModel" "StemMillModel" "last" "I", Cond.laysFinal "StemMillModel" "StemMillModel" "diameters" "[I", Cond.lays "StemMillModel" "StemMillModel" "defects" "I", Cond.laysFinal "StemMillModel" "StemMillModel" "defectFrom" "[I", Cond.laysFinal "StemMillModel" "StemMillModel" "defectTo" "[I", Cond.laysFinal "StemMillModel" "StemMillModel" "defectGrade" "[I", Cond.laysFinal "StemMillModel" "StemMillModel" "kindLength" "[I", Cond.laysFinal "StemMillModel" "StemMillModel" "kindTop" "[I", Cond.laysFinal "StemMillModel" "StemMillModel" "kindPrice" "[I", Cond.lays "StemMillModel" "StemMillModel" "logs" "I", Cond.laysFinal "StemMillModel" "StemMillModel" "logPart" "[I", Cond.laysFinal "StemMillModel" "StemMillModel" "thick" "[I", Cond.laysFinal "StemMillModel" "StemMillModel" "wide" "[I", Cond.laysFinal "StemMillModel" "StemMillModel" "boardPrices" "[I", Cond.laysFinal "StemMillModel" "StemMillModel" "needs" "[I", Cond.laysFinal "StemMillModel" "StemMillModel" "heights" "[I", Cond.lays "StemMillModel" "StemMillModel" "kerf" "I", Cond.laysFinal "StemMillModel" "StemMillModel" "shortage" "[I", Cond.laysFinal "StemMillModel" "StemMillModel" "addition" "[I", Cond.lays "StemMillModel" "StemMillModel" "boards" "I", Cond.lays "StemMillModel" "StemMillModel" "cant" "I", Cond.laysFinal "StemMillModel" "StemMillModel" "board" "[I", Cond.laysFinal "StemMillModel" "StemMillModel" "price" "[I", Cond.laysFinal "StemMillModel" "StemMillModel" "row" "[I", Cond.laysFinal "StemMillModel" "StemMillModel" "stack" "[I", Cond.laysFinal "StemMillModel" "StemMillModel" "best" "[I", Cond.laysFinal "StemMillModel" "StemMillModel" "value" "[I", Cond.laysFinal "StemMillModel" "StemMillModel" "leads" "[Z"] := by decide +kernel
theorem zt_inX11 : ∀ w ∈ u_ws RX11 TX11 29, w ∈ zt_W := by
  rw [zt_e11]
  exact List.forall_mem_cons.mpr ⟨(zt_mem 694 (by decide +kernel) rfl), List.forall_mem_cons.mpr ⟨(zt_mem 696 (by decide +kernel) rfl), List.forall_mem_cons.mpr ⟨(zt_mem 698 (by decide +kernel) rfl), List.forall_mem_cons.mpr ⟨(zt_mem 700 (by decide +kernel) rfl), List.forall_mem_cons.mpr ⟨(zt_mem 702 (by decide +kernel) rfl), List.forall_mem_cons.mpr ⟨(zt_mem 704 (by decide +kernel) rfl), List.forall_mem_cons.mpr ⟨(zt_mem 706 (by decide +kernel) rfl), List.forall_mem_cons.mpr ⟨(zt_mem 708 (by decide +kernel) rfl), List.forall_mem_cons.mpr ⟨(zt_mem 710 (by decide +kernel) rfl), List.forall_mem_cons.mpr ⟨(zt_mem 712 (by decide +kernel) rfl), List.forall_mem_cons.mpr ⟨(zt_mem 714 (by decide +kernel) rfl), List.forall_mem_cons.mpr ⟨(zt_mem 716 (by decide +kernel) rfl), List.forall_mem_cons.mpr ⟨(zt_mem 718 (by decide +kernel) rfl), List.forall_mem_cons.mpr ⟨(zt_mem 720 (by decide +kernel) rfl), List.forall_mem_cons.mpr ⟨(zt_mem 722 (by decide +kernel) rfl), List.forall_mem_cons.mpr ⟨(zt_mem 724 (by decide +kernel) rfl), List.forall_mem_cons.mpr ⟨(zt_mem 726 (by decide +kernel) rfl), List.forall_mem_cons.mpr ⟨(zt_mem 728 (by decide +kernel) rfl), List.forall_mem_cons.mpr ⟨(zt_mem 730 (by decide +kernel) rfl), List.forall_mem_cons.mpr ⟨(zt_mem 732 (by decide +kernel) rfl), List.forall_mem_cons.mpr ⟨(zt_mem 734 (by decide +kernel) rfl), List.forall_mem_cons.mpr ⟨(zt_mem 736 (by decide +kernel) rfl), List.forall_mem_cons.mpr ⟨(zt_mem 738 (by decide +kernel) rfl), List.forall_mem_cons.mpr ⟨(zt_mem 740 (by decide +kernel) rfl), List.forall_mem_cons.mpr ⟨(zt_mem 742 (by decide +kernel) rfl), List.forall_mem_cons.mpr ⟨(zt_mem 744 (by decide +kernel) rfl), List.forall_mem_cons.mpr ⟨(zt_mem 746 (by decide +kernel) rfl), List.forall_mem_cons.mpr ⟨(zt_mem 748 (by decide +kernel) rfl), List.forall_mem_cons.mpr ⟨(zt_mem 750 (by decide +kernel) rfl), fun _ h => absurd h List.not_mem_nil⟩⟩⟩⟩⟩⟩⟩⟩⟩⟩⟩⟩⟩⟩⟩⟩⟩⟩⟩⟩⟩⟩⟩⟩⟩⟩⟩⟩⟩
