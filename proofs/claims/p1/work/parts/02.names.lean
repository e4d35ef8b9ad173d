-- names, fields, methods of the program: printed by TURN, taken by names.py
def RX0 : String := "ParametricFlow$Arcs"
def TX0 : u_T := fun k => match k with
  | 0 => ("ParametricFlow$Arcs", "nodes", "I", false)
  | 1 => ("ParametricFlow$Arcs", "count", "I", false)
  | 2 => ("ParametricFlow$Arcs", "from", "[I", true)
  | 3 => ("ParametricFlow$Arcs", "to", "[I", true)
  | 4 => ("ParametricFlow$Arcs", "capacity", "[J", true)
  | 5 => ("ParametricFlow$Arcs", "cost", "[J", true)
  | 6 => ("ParametricFlow$Arcs", "flow", "[J", true)
  | _ => ("ParametricFlow$Arcs", "place", "[I", true)
def tyX0 : Nat → FieldType := fun k => match k with
  | 0 => .int
  | 1 => .int
  | 2 => .array .int
  | 3 => .array .int
  | 4 => .array .long
  | 5 => .array .long
  | 6 => .array .long
  | _ => .array .int
abbrev wsX00 : List Cond := u_ws RX0 TX0 8
theorem nmX0 : ∀ a, a < 8 → ∀ b, b < 8 → a ≠ b → (TX0 a).2.1 ≠ (TX0 b).2.1 := by decide +kernel
theorem tyX0_ok : ∀ k, k < 8 → parseFieldDescriptor (TX0 k).2.2.1 = some (tyX0 k) := by decide +kernel
abbrev cX0_init : ByteArray := prog_2_method_1_code
def yX0_init : MethodName := ⟨RX0, "<init>", "()V"⟩
abbrev cX0_load : ByteArray := prog_2_method_2_code
def yX0_load : MethodName := ⟨RX0, "load", "(LParametricFlow$Network;JJ)V"⟩
abbrev cX0_loadArtificial : ByteArray := prog_2_method_3_code
def yX0_loadArtificial : MethodName := ⟨RX0, "loadArtificial", "(IJJ)V"⟩
abbrev cX0_hasArtificialFlow : ByteArray := prog_2_method_4_code
def yX0_hasArtificialFlow : MethodName := ⟨RX0, "hasArtificialFlow", "()Z"⟩
abbrev cX0_totalCost : ByteArray := prog_2_method_5_code
def yX0_totalCost : MethodName := ⟨RX0, "totalCost", "()J"⟩
abbrev cX0_room : ByteArray := prog_2_method_6_code
def yX0_room : MethodName := ⟨RX0, "room", "(IZ)J"⟩
abbrev cX0_push : ByteArray := prog_2_method_7_code
def yX0_push : MethodName := ⟨RX0, "push", "(IZJ)V"⟩
abbrev cX0_putAtBound : ByteArray := prog_2_method_8_code
def yX0_putAtBound : MethodName := ⟨RX0, "putAtBound", "(I)V"⟩
def RX1 : String := "ParametricFlow$Curve"
def TX1 : u_T := fun k => match k with
  | 0 => ("ParametricFlow$Curve", "known", "Z", false)
  | 1 => ("ParametricFlow$Curve", "low", "I", false)
  | 2 => ("ParametricFlow$Curve", "high", "I", false)
  | 3 => ("ParametricFlow$Curve", "answer", "I", false)
  | 4 => ("ParametricFlow$Curve", "numerators", "LParametricFlow$Longs;", true)
  | 5 => ("ParametricFlow$Curve", "denominators", "LParametricFlow$Longs;", true)
  | 6 => ("ParametricFlow$Curve", "slopes", "LParametricFlow$Longs;", true)
  | 7 => ("ParametricFlow$Curve", "left", "LParametricFlow$Line;", true)
  | 8 => ("ParametricFlow$Curve", "rights", "Ljava/util/ArrayList;", true)
  | _ => ("ParametricFlow$Curve", "depth", "I", false)
def tyX1 : Nat → FieldType := fun k => match k with
  | 0 => .boolean
  | 1 => .int
  | 2 => .int
  | 3 => .int
  | 4 => .object "ParametricFlow$Longs"
  | 5 => .object "ParametricFlow$Longs"
  | 6 => .object "ParametricFlow$Longs"
  | 7 => .object "ParametricFlow$Line"
  | 8 => .object "java/util/ArrayList"
  | _ => .int
abbrev wsX10 : List Cond := u_ws RX1 TX1 10
theorem nmX1 : ∀ a, a < 10 → ∀ b, b < 10 → a ≠ b → (TX1 a).2.1 ≠ (TX1 b).2.1 := by decide +kernel
theorem tyX1_ok : ∀ k, k < 10 → parseFieldDescriptor (TX1 k).2.2.1 = some (tyX1 k) := by decide +kernel
abbrev cX1_init : ByteArray := prog_3_method_1_code
def yX1_init : MethodName := ⟨RX1, "<init>", "()V"⟩
abbrev cX1_trace : ByteArray := prog_3_method_2_code
def yX1_trace : MethodName := ⟨RX1, "trace", "(LParametricFlow$Network;LParametricFlow$Simplex;II)I"⟩
abbrev cX1_begin : ByteArray := prog_3_method_3_code
def yX1_begin : MethodName := ⟨RX1, "begin", "(LParametricFlow$Network;LParametricFlow$Simplex;)I"⟩
abbrev cX1_nextRight : ByteArray := prog_3_method_4_code
def yX1_nextRight : MethodName := ⟨RX1, "nextRight", "()LParametricFlow$Line;"⟩
abbrev cX1_split : ByteArray := prog_3_method_5_code
def yX1_split : MethodName := ⟨RX1, "split", "(LParametricFlow$Network;LParametricFlow$Simplex;LParametricFlow$Line;)V"⟩
abbrev cX1_addPiece : ByteArray := prog_3_method_6_code
def yX1_addPiece : MethodName := ⟨RX1, "addPiece", "(JJJ)V"⟩
def RX2 : String := "ParametricFlow$Cycle"
def TX2 : u_T := fun k => match k with
  | 0 => ("ParametricFlow$Cycle", "row", "I", false)
  | 1 => ("ParametricFlow$Cycle", "along", "Z", false)
  | 2 => ("ParametricFlow$Cycle", "tail", "I", false)
  | 3 => ("ParametricFlow$Cycle", "head", "I", false)
  | 4 => ("ParametricFlow$Cycle", "apex", "I", false)
  | 5 => ("ParametricFlow$Cycle", "least", "J", false)
  | 6 => ("ParametricFlow$Cycle", "cut", "I", false)
  | _ => ("ParametricFlow$Cycle", "cutAhead", "Z", false)
def tyX2 : Nat → FieldType := fun k => match k with
  | 0 => .int
  | 1 => .boolean
  | 2 => .int
  | 3 => .int
  | 4 => .int
  | 5 => .long
  | 6 => .int
  | _ => .boolean
abbrev wsX20 : List Cond := u_ws RX2 TX2 8
theorem nmX2 : ∀ a, a < 8 → ∀ b, b < 8 → a ≠ b → (TX2 a).2.1 ≠ (TX2 b).2.1 := by decide +kernel
theorem tyX2_ok : ∀ k, k < 8 → parseFieldDescriptor (TX2 k).2.2.1 = some (tyX2 k) := by decide +kernel
abbrev cX2_init : ByteArray := prog_4_method_1_code
def yX2_init : MethodName := ⟨RX2, "<init>", "()V"⟩
abbrev cX2_close : ByteArray := prog_4_method_2_code
def yX2_close : MethodName := ⟨RX2, "close", "(LParametricFlow$Arcs;LParametricFlow$Tree;I)V"⟩
abbrev cX2_push : ByteArray := prog_4_method_3_code
def yX2_push : MethodName := ⟨RX2, "push", "(LParametricFlow$Arcs;LParametricFlow$Tree;)V"⟩
abbrev cX2_exchange : ByteArray := prog_4_method_4_code
def yX2_exchange : MethodName := ⟨RX2, "exchange", "(LParametricFlow$Arcs;LParametricFlow$Tree;)I"⟩
def RX3 : String := "ParametricFlow$Line"
def TX3 : u_T := fun k => match k with
  | 0 => ("ParametricFlow$Line", "start", "J", false)
  | 1 => ("ParametricFlow$Line", "slope", "J", false)
  | 2 => ("ParametricFlow$Line", "p", "J", false)
  | _ => ("ParametricFlow$Line", "q", "J", false)
def tyX3 : Nat → FieldType := fun k => match k with
  | 0 => .long
  | 1 => .long
  | 2 => .long
  | _ => .long
abbrev wsX30 : List Cond := u_ws RX3 TX3 4
theorem nmX3 : ∀ a, a < 4 → ∀ b, b < 4 → a ≠ b → (TX3 a).2.1 ≠ (TX3 b).2.1 := by decide +kernel
theorem tyX3_ok : ∀ k, k < 4 → parseFieldDescriptor (TX3 k).2.2.1 = some (tyX3 k) := by decide +kernel
abbrev cX3_init : ByteArray := prog_5_method_1_code
def yX3_init : MethodName := ⟨RX3, "<init>", "()V"⟩
abbrev cX3_touch : ByteArray := prog_5_method_2_code
def yX3_touch : MethodName := ⟨RX3, "touch", "(LParametricFlow$Network;LParametricFlow$Simplex;JJ)Z"⟩
abbrev cX3_meets : ByteArray := prog_5_method_3_code
def yX3_meets : MethodName := ⟨RX3, "meets", "(LParametricFlow$Line;)Z"⟩
abbrev cX3_copy : ByteArray := prog_5_method_4_code
def yX3_copy : MethodName := ⟨RX3, "copy", "(LParametricFlow$Line;)V"⟩
def RX4 : String := "ParametricFlow$Longs"
def TX4 : u_T := fun k => match k with
  | 0 => ("ParametricFlow$Longs", "size", "I", false)
  | _ => ("ParametricFlow$Longs", "items", "[J", false)
def tyX4 : Nat → FieldType := fun k => match k with
  | 0 => .int
  | _ => .array .long
abbrev wsX40 : List Cond := u_ws RX4 TX4 2
theorem nmX4 : ∀ a, a < 2 → ∀ b, b < 2 → a ≠ b → (TX4 a).2.1 ≠ (TX4 b).2.1 := by decide +kernel
theorem tyX4_ok : ∀ k, k < 2 → parseFieldDescriptor (TX4 k).2.2.1 = some (tyX4 k) := by decide +kernel
abbrev cX4_init : ByteArray := prog_6_method_1_code
def yX4_init : MethodName := ⟨RX4, "<init>", "()V"⟩
abbrev cX4_clear : ByteArray := prog_6_method_2_code
def yX4_clear : MethodName := ⟨RX4, "clear", "()V"⟩
abbrev cX4_add : ByteArray := prog_6_method_3_code
def yX4_add : MethodName := ⟨RX4, "add", "(J)V"⟩
abbrev cX4_at : ByteArray := prog_6_method_4_code
def yX4_at : MethodName := ⟨RX4, "at", "(I)J"⟩
def RX5 : String := "ParametricFlow$Network"
def TX5 : u_T := fun k => match k with
  | 0 => ("ParametricFlow$Network", "nodes", "I", false)
  | 1 => ("ParametricFlow$Network", "arcs", "I", false)
  | 2 => ("ParametricFlow$Network", "mode", "I", false)
  | 3 => ("ParametricFlow$Network", "supply", "[I", true)
  | 4 => ("ParametricFlow$Network", "supplySlope", "[I", true)
  | 5 => ("ParametricFlow$Network", "from", "[I", true)
  | 6 => ("ParametricFlow$Network", "to", "[I", true)
  | 7 => ("ParametricFlow$Network", "capacity", "[I", true)
  | 8 => ("ParametricFlow$Network", "cost", "[I", true)
  | _ => ("ParametricFlow$Network", "slope", "[I", true)
def tyX5 : Nat → FieldType := fun k => match k with
  | 0 => .int
  | 1 => .int
  | 2 => .int
  | 3 => .array .int
  | 4 => .array .int
  | 5 => .array .int
  | 6 => .array .int
  | 7 => .array .int
  | 8 => .array .int
  | _ => .array .int
abbrev wsX50 : List Cond := u_ws RX5 TX5 10
theorem nmX5 : ∀ a, a < 10 → ∀ b, b < 10 → a ≠ b → (TX5 a).2.1 ≠ (TX5 b).2.1 := by decide +kernel
theorem tyX5_ok : ∀ k, k < 10 → parseFieldDescriptor (TX5 k).2.2.1 = some (tyX5 k) := by decide +kernel
abbrev cX5_init : ByteArray := prog_7_method_1_code
def yX5_init : MethodName := ⟨RX5, "<init>", "()V"⟩
abbrev cX5_clear : ByteArray := prog_7_method_2_code
def yX5_clear : MethodName := ⟨RX5, "clear", "(I)V"⟩
abbrev cX5_hasNode : ByteArray := prog_7_method_3_code
def yX5_hasNode : MethodName := ⟨RX5, "hasNode", "(I)Z"⟩
abbrev cX5_hasArc : ByteArray := prog_7_method_4_code
def yX5_hasArc : MethodName := ⟨RX5, "hasArc", "(I)Z"⟩
abbrev cX5_sumOf : ByteArray := prog_7_method_5_code
def yX5_sumOf : MethodName := ⟨RX5, "sumOf", "([I)I"⟩
abbrev cX5_isBalanced : ByteArray := prog_7_method_6_code
def yX5_isBalanced : MethodName := ⟨RX5, "isBalanced", "(JJ)Z"⟩
abbrev cX5_scaledSupply : ByteArray := prog_7_method_7_code
def yX5_scaledSupply : MethodName := ⟨RX5, "scaledSupply", "(IJJ)J"⟩
abbrev cX5_scaledCapacity : ByteArray := prog_7_method_8_code
def yX5_scaledCapacity : MethodName := ⟨RX5, "scaledCapacity", "(IJ)J"⟩
abbrev cX5_scaledCost : ByteArray := prog_7_method_9_code
def yX5_scaledCost : MethodName := ⟨RX5, "scaledCost", "(IJJ)J"⟩
def RX6 : String := "ParametricFlow$Range"
def TX6 : u_T := fun k => match k with
  | 0 => ("ParametricFlow$Range", "hasLower", "Z", false)
  | 1 => ("ParametricFlow$Range", "hasUpper", "Z", false)
  | 2 => ("ParametricFlow$Range", "lowerTop", "J", false)
  | 3 => ("ParametricFlow$Range", "lowerBottom", "J", false)
  | 4 => ("ParametricFlow$Range", "upperTop", "J", false)
  | _ => ("ParametricFlow$Range", "upperBottom", "J", false)
def tyX6 : Nat → FieldType := fun k => match k with
  | 0 => .boolean
  | 1 => .boolean
  | 2 => .long
  | 3 => .long
  | 4 => .long
  | _ => .long
abbrev wsX60 : List Cond := u_ws RX6 TX6 6
theorem nmX6 : ∀ a, a < 6 → ∀ b, b < 6 → a ≠ b → (TX6 a).2.1 ≠ (TX6 b).2.1 := by decide +kernel
theorem tyX6_ok : ∀ k, k < 6 → parseFieldDescriptor (TX6 k).2.2.1 = some (tyX6 k) := by decide +kernel
abbrev cX6_init : ByteArray := prog_8_method_1_code
def yX6_init : MethodName := ⟨RX6, "<init>", "()V"⟩
abbrev cX6_clear : ByteArray := prog_8_method_2_code
def yX6_clear : MethodName := ⟨RX6, "clear", "()V"⟩
abbrev cX6_keep : ByteArray := prog_8_method_3_code
def yX6_keep : MethodName := ⟨RX6, "keep", "(JJ)V"⟩
def RX7 : String := "ParametricFlow$Simplex"
def TX7 : u_T := fun k => match k with
  | 0 => ("ParametricFlow$Simplex", "mode", "I", false)
  | 1 => ("ParametricFlow$Simplex", "p", "J", false)
  | 2 => ("ParametricFlow$Simplex", "q", "J", false)
  | 3 => ("ParametricFlow$Simplex", "arcs", "LParametricFlow$Arcs;", true)
  | 4 => ("ParametricFlow$Simplex", "tree", "LParametricFlow$Tree;", true)
  | 5 => ("ParametricFlow$Simplex", "cycle", "LParametricFlow$Cycle;", true)
  | 6 => ("ParametricFlow$Simplex", "entered", "LParametricFlow$Longs;", true)
  | 7 => ("ParametricFlow$Simplex", "left", "LParametricFlow$Longs;", true)
  | _ => ("ParametricFlow$Simplex", "range", "LParametricFlow$Range;", true)
def tyX7 : Nat → FieldType := fun k => match k with
  | 0 => .int
  | 1 => .long
  | 2 => .long
  | 3 => .object "ParametricFlow$Arcs"
  | 4 => .object "ParametricFlow$Tree"
  | 5 => .object "ParametricFlow$Cycle"
  | 6 => .object "ParametricFlow$Longs"
  | 7 => .object "ParametricFlow$Longs"
  | _ => .object "ParametricFlow$Range"
abbrev wsX70 : List Cond := u_ws RX7 TX7 9
theorem nmX7 : ∀ a, a < 9 → ∀ b, b < 9 → a ≠ b → (TX7 a).2.1 ≠ (TX7 b).2.1 := by decide +kernel
theorem tyX7_ok : ∀ k, k < 9 → parseFieldDescriptor (TX7 k).2.2.1 = some (tyX7 k) := by decide +kernel
abbrev cX7_init : ByteArray := prog_9_method_1_code
def yX7_init : MethodName := ⟨RX7, "<init>", "()V"⟩
abbrev cX7_run : ByteArray := prog_9_method_2_code
def yX7_run : MethodName := ⟨RX7, "run", "(LParametricFlow$Network;JJ)I"⟩
abbrev cX7_reduced : ByteArray := prog_9_method_3_code
def yX7_reduced : MethodName := ⟨RX7, "reduced", "(I)J"⟩
abbrev cX7_entering : ByteArray := prog_9_method_4_code
def yX7_entering : MethodName := ⟨RX7, "entering", "()I"⟩
abbrev cX7_rate : ByteArray := prog_9_method_5_code
def yX7_rate : MethodName := ⟨RX7, "rate", "(LParametricFlow$Network;)J"⟩
abbrev cX7_end : ByteArray := prog_9_method_6_code
def yX7_end : MethodName := ⟨RX7, "end", "(LParametricFlow$Network;ZZ)J"⟩
abbrev cX7_limitByCosts : ByteArray := prog_9_method_7_code
def yX7_limitByCosts : MethodName := ⟨RX7, "limitByCosts", "(LParametricFlow$Network;)V"⟩
abbrev cX7_slopeTo : ByteArray := prog_9_method_8_code
def yX7_slopeTo : MethodName := ⟨RX7, "slopeTo", "(ILParametricFlow$Network;)J"⟩
abbrev cX7_limitByFlows : ByteArray := prog_9_method_9_code
def yX7_limitByFlows : MethodName := ⟨RX7, "limitByFlows", "(LParametricFlow$Network;)V"⟩
abbrev cX7_slopeBelow : ByteArray := prog_9_method_10_code
def yX7_slopeBelow : MethodName := ⟨RX7, "slopeBelow", "(ILParametricFlow$Network;)J"⟩
def RX8 : String := "ParametricFlow$Tree"
def TX8 : u_T := fun k => match k with
  | 0 => ("ParametricFlow$Tree", "root", "I", false)
  | 1 => ("ParametricFlow$Tree", "parent", "[I", true)
  | 2 => ("ParametricFlow$Tree", "link", "[I", true)
  | 3 => ("ParametricFlow$Tree", "depth", "[I", true)
  | 4 => ("ParametricFlow$Tree", "potential", "[J", true)
  | 5 => ("ParametricFlow$Tree", "size", "[I", true)
  | 6 => ("ParametricFlow$Tree", "order", "[I", true)
  | _ => ("ParametricFlow$Tree", "waiting", "[I", true)
def tyX8 : Nat → FieldType := fun k => match k with
  | 0 => .int
  | 1 => .array .int
  | 2 => .array .int
  | 3 => .array .int
  | 4 => .array .long
  | 5 => .array .int
  | 6 => .array .int
  | _ => .array .int
abbrev wsX80 : List Cond := u_ws RX8 TX8 8
theorem nmX8 : ∀ a, a < 8 → ∀ b, b < 8 → a ≠ b → (TX8 a).2.1 ≠ (TX8 b).2.1 := by decide +kernel
theorem tyX8_ok : ∀ k, k < 8 → parseFieldDescriptor (TX8 k).2.2.1 = some (tyX8 k) := by decide +kernel
abbrev cX8_init : ByteArray := prog_10_method_1_code
def yX8_init : MethodName := ⟨RX8, "<init>", "()V"⟩
abbrev cX8_plant : ByteArray := prog_10_method_2_code
def yX8_plant : MethodName := ⟨RX8, "plant", "(LParametricFlow$Arcs;)V"⟩
abbrev cX8_measure : ByteArray := prog_10_method_3_code
def yX8_measure : MethodName := ⟨RX8, "measure", "(LParametricFlow$Arcs;)V"⟩
abbrev cX8_leadsUp : ByteArray := prog_10_method_4_code
def yX8_leadsUp : MethodName := ⟨RX8, "leadsUp", "(LParametricFlow$Arcs;I)Z"⟩
abbrev cX8_apex : ByteArray := prog_10_method_5_code
def yX8_apex : MethodName := ⟨RX8, "apex", "(II)I"⟩
abbrev cX8_rehang : ByteArray := prog_10_method_6_code
def yX8_rehang : MethodName := ⟨RX8, "rehang", "(IIII)V"⟩
abbrev cX8_isBelow : ByteArray := prog_10_method_7_code
def yX8_isBelow : MethodName := ⟨RX8, "isBelow", "(II)Z"⟩
abbrev cX8_putInOrder : ByteArray := prog_10_method_8_code
def yX8_putInOrder : MethodName := ⟨RX8, "putInOrder", "()V"⟩
def RX9 : String := "ParametricFlow"
def TX9 : u_T := fun k => match k with
  | 0 => ("ParametricFlow", "net", "LParametricFlow$Network;", true)
  | 1 => ("ParametricFlow", "curve", "LParametricFlow$Curve;", true)
  | 2 => ("ParametricFlow", "kept", "LParametricFlow$Simplex;", false)
  | 3 => ("ParametricFlow", "work", "LParametricFlow$Simplex;", false)
  | _ => ("ParametricFlow", "solved", "Z", false)
def tyX9 : Nat → FieldType := fun k => match k with
  | 0 => .object "ParametricFlow$Network"
  | 1 => .object "ParametricFlow$Curve"
  | 2 => .object "ParametricFlow$Simplex"
  | 3 => .object "ParametricFlow$Simplex"
  | _ => .boolean
abbrev wsX90 : List Cond := u_ws RX9 TX9 5
theorem nmX9 : ∀ a, a < 5 → ∀ b, b < 5 → a ≠ b → (TX9 a).2.1 ≠ (TX9 b).2.1 := by decide +kernel
theorem tyX9_ok : ∀ k, k < 5 → parseFieldDescriptor (TX9 k).2.2.1 = some (tyX9 k) := by decide +kernel
abbrev cX9_init : ByteArray := prog_1_method_1_code
def yX9_init : MethodName := ⟨RX9, "<init>", "()V"⟩
abbrev cX9_reset : ByteArray := prog_1_method_2_code
def yX9_reset : MethodName := ⟨RX9, "reset", "(I)I"⟩
abbrev cX9_addArc : ByteArray := prog_1_method_3_code
def yX9_addArc : MethodName := ⟨RX9, "addArc", "(IIIII)I"⟩
abbrev cX9_removeArc : ByteArray := prog_1_method_4_code
def yX9_removeArc : MethodName := ⟨RX9, "removeArc", "()I"⟩
abbrev cX9_setArc : ByteArray := prog_1_method_5_code
def yX9_setArc : MethodName := ⟨RX9, "setArc", "(III)I"⟩
abbrev cX9_setSupply : ByteArray := prog_1_method_6_code
def yX9_setSupply : MethodName := ⟨RX9, "setSupply", "(III)I"⟩
abbrev cX9_setMode : ByteArray := prog_1_method_7_code
def yX9_setMode : MethodName := ⟨RX9, "setMode", "(I)I"⟩
abbrev cX9_arc : ByteArray := prog_1_method_8_code
def yX9_arc : MethodName := ⟨RX9, "arc", "(II)I"⟩
abbrev cX9_network : ByteArray := prog_1_method_9_code
def yX9_network : MethodName := ⟨RX9, "network", "(I)I"⟩
abbrev cX9_solve : ByteArray := prog_1_method_10_code
def yX9_solve : MethodName := ⟨RX9, "solve", "(II)I"⟩
abbrev cX9_pivot : ByteArray := prog_1_method_11_code
def yX9_pivot : MethodName := ⟨RX9, "pivot", "(IZ)I"⟩
abbrev cX9_objective : ByteArray := prog_1_method_12_code
def yX9_objective : MethodName := ⟨RX9, "objective", "(Z)J"⟩
abbrev cX9_flow : ByteArray := prog_1_method_13_code
def yX9_flow : MethodName := ⟨RX9, "flow", "(IZ)J"⟩
abbrev cX9_reducedCost : ByteArray := prog_1_method_14_code
def yX9_reducedCost : MethodName := ⟨RX9, "reducedCost", "(I)J"⟩
abbrev cX9_potential : ByteArray := prog_1_method_15_code
def yX9_potential : MethodName := ⟨RX9, "potential", "(I)J"⟩
abbrev cX9_bound : ByteArray := prog_1_method_16_code
def yX9_bound : MethodName := ⟨RX9, "bound", "(I)I"⟩
abbrev cX9_tree : ByteArray := prog_1_method_17_code
def yX9_tree : MethodName := ⟨RX9, "tree", "(II)I"⟩
abbrev cX9_preorder : ByteArray := prog_1_method_18_code
def yX9_preorder : MethodName := ⟨RX9, "preorder", "(I)I"⟩
abbrev cX9_limit : ByteArray := prog_1_method_19_code
def yX9_limit : MethodName := ⟨RX9, "limit", "(ZZ)J"⟩
abbrev cX9_value : ByteArray := prog_1_method_20_code
def yX9_value : MethodName := ⟨RX9, "value", "(IIZ)J"⟩
abbrev cX9_problem : ByteArray := prog_1_method_21_code
def yX9_problem : MethodName := ⟨RX9, "problem", "(II)I"⟩
abbrev cX9_breakpoints : ByteArray := prog_1_method_22_code
def yX9_breakpoints : MethodName := ⟨RX9, "breakpoints", "(II)I"⟩
abbrev cX9_breakpoint : ByteArray := prog_1_method_23_code
def yX9_breakpoint : MethodName := ⟨RX9, "breakpoint", "(IIIZ)J"⟩
abbrev cX9_slope : ByteArray := prog_1_method_24_code
def yX9_slope : MethodName := ⟨RX9, "slope", "(III)J"⟩
abbrev cX9_forget : ByteArray := prog_1_method_25_code
def yX9_forget : MethodName := ⟨RX9, "forget", "()V"⟩
abbrev cX9_isWithin : ByteArray := prog_1_method_26_code
def yX9_isWithin : MethodName := ⟨RX9, "isWithin", "(III)Z"⟩
abbrev cX9_isParameter : ByteArray := prog_1_method_27_code
def yX9_isParameter : MethodName := ⟨RX9, "isParameter", "(II)Z"⟩
abbrev cX9_isInterval : ByteArray := prog_1_method_28_code
def yX9_isInterval : MethodName := ⟨RX9, "isInterval", "(II)Z"⟩
abbrev cX9_nameOf : ByteArray := prog_1_method_29_code
def yX9_nameOf : MethodName := ⟨RX9, "nameOf", "(J)I"⟩
abbrev cX9_lowestTerms : ByteArray := prog_1_method_30_code
def yX9_lowestTerms : MethodName := ⟨RX9, "lowestTerms", "(JJZ)J"⟩
abbrev cX9_commonDivisor : ByteArray := prog_1_method_31_code
def yX9_commonDivisor : MethodName := ⟨RX9, "commonDivisor", "(JJ)J"⟩
def RX10 : String := "ParametricFlowModel"
def TX10 : u_T := fun k => match k with
  | 0 => ("ParametricFlowModel", "nodes", "I", false)
  | 1 => ("ParametricFlowModel", "arcs", "I", false)
  | 2 => ("ParametricFlowModel", "mode", "I", false)
  | 3 => ("ParametricFlowModel", "fromOf", "[I", true)
  | 4 => ("ParametricFlowModel", "toOf", "[I", true)
  | 5 => ("ParametricFlowModel", "capacityOf", "[I", true)
  | 6 => ("ParametricFlowModel", "costOf", "[I", true)
  | 7 => ("ParametricFlowModel", "slopeOf", "[I", true)
  | 8 => ("ParametricFlowModel", "supplyOf", "[I", true)
  | 9 => ("ParametricFlowModel", "supplySlope", "[I", true)
  | 10 => ("ParametricFlowModel", "isSolved", "Z", false)
  | 11 => ("ParametricFlowModel", "scaledCost", "[J", true)
  | 12 => ("ParametricFlowModel", "scaledCapacity", "[J", true)
  | 13 => ("ParametricFlowModel", "flowOn", "[J", true)
  | 14 => ("ParametricFlowModel", "boundOf", "[I", true)
  | 15 => ("ParametricFlowModel", "headOf", "[I", true)
  | 16 => ("ParametricFlowModel", "tailOf", "[I", true)
  | 17 => ("ParametricFlowModel", "supplyNow", "[J", true)
  | 18 => ("ParametricFlowModel", "parentOf", "[I", true)
  | 19 => ("ParametricFlowModel", "arcUp", "[I", true)
  | 20 => ("ParametricFlowModel", "depthOf", "[I", true)
  | 21 => ("ParametricFlowModel", "potentialOf", "[J", true)
  | 22 => ("ParametricFlowModel", "unit", "J", false)
  | 23 => ("ParametricFlowModel", "pivots", "I", false)
  | 24 => ("ParametricFlowModel", "entered", "[I", true)
  | 25 => ("ParametricFlowModel", "left", "[I", true)
  | 26 => ("ParametricFlowModel", "cycleLong", "I", false)
  | 27 => ("ParametricFlowModel", "cycleArc", "[I", true)
  | 28 => ("ParametricFlowModel", "cycleAlong", "[Z", true)
  | 29 => ("ParametricFlowModel", "solvedP", "I", false)
  | 30 => ("ParametricFlowModel", "solvedQ", "I", false)
  | 31 => ("ParametricFlowModel", "hasLow", "Z", false)
  | 32 => ("ParametricFlowModel", "lowOver", "J", false)
  | 33 => ("ParametricFlowModel", "lowUnder", "J", false)
  | 34 => ("ParametricFlowModel", "hasHigh", "Z", false)
  | 35 => ("ParametricFlowModel", "highOver", "J", false)
  | 36 => ("ParametricFlowModel", "highUnder", "J", false)
  | 37 => ("ParametricFlowModel", "first", "[J", true)
  | 38 => ("ParametricFlowModel", "second", "[J", true)
  | 39 => ("ParametricFlowModel", "points", "I", false)
  | 40 => ("ParametricFlowModel", "pointOver", "[J", true)
  | 41 => ("ParametricFlowModel", "pointUnder", "[J", true)
  | 42 => ("ParametricFlowModel", "lineConstant", "[J", true)
  | 43 => ("ParametricFlowModel", "lineSlope", "[J", true)
  | 44 => ("ParametricFlowModel", "isKnown", "[Z", true)
  | 45 => ("ParametricFlowModel", "stretchSlope", "[J", true)
  | 46 => ("ParametricFlowModel", "lineFrom", "J", false)
  | _ => ("ParametricFlowModel", "lineRise", "J", false)
def tyX10 : Nat → FieldType := fun k => match k with
  | 0 => .int
  | 1 => .int
  | 2 => .int
  | 3 => .array .int
  | 4 => .array .int
  | 5 => .array .int
  | 6 => .array .int
  | 7 => .array .int
  | 8 => .array .int
  | 9 => .array .int
  | 10 => .boolean
  | 11 => .array .long
  | 12 => .array .long
  | 13 => .array .long
  | 14 => .array .int
  | 15 => .array .int
  | 16 => .array .int
  | 17 => .array .long
  | 18 => .array .int
  | 19 => .array .int
  | 20 => .array .int
  | 21 => .array .long
  | 22 => .long
  | 23 => .int
  | 24 => .array .int
  | 25 => .array .int
  | 26 => .int
  | 27 => .array .int
  | 28 => .array .boolean
  | 29 => .int
  | 30 => .int
  | 31 => .boolean
  | 32 => .long
  | 33 => .long
  | 34 => .boolean
  | 35 => .long
  | 36 => .long
  | 37 => .array .long
  | 38 => .array .long
  | 39 => .int
  | 40 => .array .long
  | 41 => .array .long
  | 42 => .array .long
  | 43 => .array .long
  | 44 => .array .boolean
  | 45 => .array .long
  | 46 => .long
  | _ => .long
abbrev wsX100 : List Cond := u_ws RX10 TX10 48
theorem nmX10 : ∀ a, a < 48 → ∀ b, b < 48 → a ≠ b → (TX10 a).2.1 ≠ (TX10 b).2.1 := by decide +kernel
theorem tyX10_ok : ∀ k, k < 48 → parseFieldDescriptor (TX10 k).2.2.1 = some (tyX10 k) := by decide +kernel
abbrev cX10_init : ByteArray := prog_12_method_1_code
def yX10_init : MethodName := ⟨RX10, "<init>", "()V"⟩
abbrev cX10_in : ByteArray := prog_12_method_2_code
def yX10_in : MethodName := ⟨RX10, "in", "(III)Z"⟩
abbrev cX10_lost : ByteArray := prog_12_method_3_code
def yX10_lost : MethodName := ⟨RX10, "lost", "()J"⟩
abbrev cX10_size : ByteArray := prog_12_method_4_code
def yX10_size : MethodName := ⟨RX10, "size", "(J)J"⟩
abbrev cX10_common : ByteArray := prog_12_method_5_code
def yX10_common : MethodName := ⟨RX10, "common", "(JJ)J"⟩
abbrev cX10_part : ByteArray := prog_12_method_6_code
def yX10_part : MethodName := ⟨RX10, "part", "(JJZ)J"⟩
abbrev cX10_begin : ByteArray := prog_12_method_7_code
def yX10_begin : MethodName := ⟨RX10, "begin", "(I)V"⟩
abbrev cX10_reset : ByteArray := prog_12_method_8_code
def yX10_reset : MethodName := ⟨RX10, "reset", "(I)I"⟩
abbrev cX10_noNode : ByteArray := prog_12_method_9_code
def yX10_noNode : MethodName := ⟨RX10, "noNode", "(I)Z"⟩
abbrev cX10_noArc : ByteArray := prog_12_method_10_code
def yX10_noArc : MethodName := ⟨RX10, "noArc", "(I)Z"⟩
abbrev cX10_isCapacity : ByteArray := prog_12_method_11_code
def yX10_isCapacity : MethodName := ⟨RX10, "isCapacity", "(I)Z"⟩
abbrev cX10_isCost : ByteArray := prog_12_method_12_code
def yX10_isCost : MethodName := ⟨RX10, "isCost", "(I)Z"⟩
abbrev cX10_isSlope : ByteArray := prog_12_method_13_code
def yX10_isSlope : MethodName := ⟨RX10, "isSlope", "(I)Z"⟩
abbrev cX10_addArc : ByteArray := prog_12_method_14_code
def yX10_addArc : MethodName := ⟨RX10, "addArc", "(IIIII)I"⟩
abbrev cX10_removeArc : ByteArray := prog_12_method_15_code
def yX10_removeArc : MethodName := ⟨RX10, "removeArc", "()I"⟩
abbrev cX10_setArc : ByteArray := prog_12_method_16_code
def yX10_setArc : MethodName := ⟨RX10, "setArc", "(III)I"⟩
abbrev cX10_setSupply : ByteArray := prog_12_method_17_code
def yX10_setSupply : MethodName := ⟨RX10, "setSupply", "(III)I"⟩
abbrev cX10_setMode : ByteArray := prog_12_method_18_code
def yX10_setMode : MethodName := ⟨RX10, "setMode", "(I)I"⟩
abbrev cX10_arc : ByteArray := prog_12_method_19_code
def yX10_arc : MethodName := ⟨RX10, "arc", "(II)I"⟩
abbrev cX10_sumOf : ByteArray := prog_12_method_20_code
def yX10_sumOf : MethodName := ⟨RX10, "sumOf", "(Z)I"⟩
abbrev cX10_network : ByteArray := prog_12_method_21_code
def yX10_network : MethodName := ⟨RX10, "network", "(I)I"⟩
abbrev cX10_isBalanced : ByteArray := prog_12_method_22_code
def yX10_isBalanced : MethodName := ⟨RX10, "isBalanced", "(JJ)Z"⟩
abbrev cX10_lay : ByteArray := prog_12_method_23_code
def yX10_lay : MethodName := ⟨RX10, "lay", "(JJ)V"⟩
abbrev cX10_layDepths : ByteArray := prog_12_method_24_code
def yX10_layDepths : MethodName := ⟨RX10, "layDepths", "()V"⟩
abbrev cX10_reduced : ByteArray := prog_12_method_25_code
def yX10_reduced : MethodName := ⟨RX10, "reduced", "(I)J"⟩
abbrev cX10_entering : ByteArray := prog_12_method_26_code
def yX10_entering : MethodName := ⟨RX10, "entering", "()I"⟩
abbrev cX10_apexOf : ByteArray := prog_12_method_27_code
def yX10_apexOf : MethodName := ⟨RX10, "apexOf", "(II)I"⟩
abbrev cX10_layCycle : ByteArray := prog_12_method_28_code
def yX10_layCycle : MethodName := ⟨RX10, "layCycle", "(I)V"⟩
abbrev cX10_room : ByteArray := prog_12_method_29_code
def yX10_room : MethodName := ⟨RX10, "room", "(I)J"⟩
abbrev cX10_hang : ByteArray := prog_12_method_30_code
def yX10_hang : MethodName := ⟨RX10, "hang", "(IIII)V"⟩
abbrev cX10_isBelow : ByteArray := prog_12_method_31_code
def yX10_isBelow : MethodName := ⟨RX10, "isBelow", "(II)Z"⟩
abbrev cX10_pivotBy : ByteArray := prog_12_method_32_code
def yX10_pivotBy : MethodName := ⟨RX10, "pivotBy", "(I)V"⟩
abbrev cX10_tryAt : ByteArray := prog_12_method_33_code
def yX10_tryAt : MethodName := ⟨RX10, "tryAt", "(JJ)I"⟩
abbrev cX10_valueNow : ByteArray := prog_12_method_34_code
def yX10_valueNow : MethodName := ⟨RX10, "valueNow", "()J"⟩
abbrev cX10_findAgain : ByteArray := prog_12_method_35_code
def yX10_findAgain : MethodName := ⟨RX10, "findAgain", "()V"⟩
abbrev cX10_isParameter : ByteArray := prog_12_method_36_code
def yX10_isParameter : MethodName := ⟨RX10, "isParameter", "(II)Z"⟩
abbrev cX10_solve : ByteArray := prog_12_method_37_code
def yX10_solve : MethodName := ⟨RX10, "solve", "(II)I"⟩
abbrev cX10_told : ByteArray := prog_12_method_38_code
def yX10_told : MethodName := ⟨RX10, "told", "(I)I"⟩
abbrev cX10_pivot : ByteArray := prog_12_method_39_code
def yX10_pivot : MethodName := ⟨RX10, "pivot", "(IZ)I"⟩
abbrev cX10_objective : ByteArray := prog_12_method_40_code
def yX10_objective : MethodName := ⟨RX10, "objective", "(Z)J"⟩
abbrev cX10_flow : ByteArray := prog_12_method_41_code
def yX10_flow : MethodName := ⟨RX10, "flow", "(IZ)J"⟩
abbrev cX10_reducedCost : ByteArray := prog_12_method_42_code
def yX10_reducedCost : MethodName := ⟨RX10, "reducedCost", "(I)J"⟩
abbrev cX10_potential : ByteArray := prog_12_method_43_code
def yX10_potential : MethodName := ⟨RX10, "potential", "(I)J"⟩
abbrev cX10_bound : ByteArray := prog_12_method_44_code
def yX10_bound : MethodName := ⟨RX10, "bound", "(I)I"⟩
abbrev cX10_tree : ByteArray := prog_12_method_45_code
def yX10_tree : MethodName := ⟨RX10, "tree", "(II)I"⟩
abbrev cX10_after : ByteArray := prog_12_method_46_code
def yX10_after : MethodName := ⟨RX10, "after", "(I)I"⟩
abbrev cX10_preorder : ByteArray := prog_12_method_47_code
def yX10_preorder : MethodName := ⟨RX10, "preorder", "(I)I"⟩
abbrev cX10_bind : ByteArray := prog_12_method_48_code
def yX10_bind : MethodName := ⟨RX10, "bind", "(JJ)V"⟩
abbrev cX10_findInterval : ByteArray := prog_12_method_49_code
def yX10_findInterval : MethodName := ⟨RX10, "findInterval", "()V"⟩
abbrev cX10_bindCosts : ByteArray := prog_12_method_50_code
def yX10_bindCosts : MethodName := ⟨RX10, "bindCosts", "()V"⟩
abbrev cX10_bindFlows : ByteArray := prog_12_method_51_code
def yX10_bindFlows : MethodName := ⟨RX10, "bindFlows", "()V"⟩
abbrev cX10_limit : ByteArray := prog_12_method_52_code
def yX10_limit : MethodName := ⟨RX10, "limit", "(ZZ)J"⟩
abbrev cX10_layLine : ByteArray := prog_12_method_53_code
def yX10_layLine : MethodName := ⟨RX10, "layLine", "()V"⟩
abbrev cX10_insertPoint : ByteArray := prog_12_method_54_code
def yX10_insertPoint : MethodName := ⟨RX10, "insertPoint", "(IJJ)V"⟩
abbrev cX10_know : ByteArray := prog_12_method_55_code
def yX10_know : MethodName := ⟨RX10, "know", "(IJ)V"⟩
abbrev cX10_split : ByteArray := prog_12_method_56_code
def yX10_split : MethodName := ⟨RX10, "split", "(I)V"⟩
abbrev cX10_findFunction : ByteArray := prog_12_method_57_code
def yX10_findFunction : MethodName := ⟨RX10, "findFunction", "(II)I"⟩
abbrev cX10_isBend : ByteArray := prog_12_method_58_code
def yX10_isBend : MethodName := ⟨RX10, "isBend", "(I)Z"⟩
abbrev cX10_isSpan : ByteArray := prog_12_method_59_code
def yX10_isSpan : MethodName := ⟨RX10, "isSpan", "(II)Z"⟩
abbrev cX10_value : ByteArray := prog_12_method_60_code
def yX10_value : MethodName := ⟨RX10, "value", "(IIZ)J"⟩
abbrev cX10_problem : ByteArray := prog_12_method_61_code
def yX10_problem : MethodName := ⟨RX10, "problem", "(II)I"⟩
abbrev cX10_breakpoints : ByteArray := prog_12_method_62_code
def yX10_breakpoints : MethodName := ⟨RX10, "breakpoints", "(II)I"⟩
abbrev cX10_breakpoint : ByteArray := prog_12_method_63_code
def yX10_breakpoint : MethodName := ⟨RX10, "breakpoint", "(IIIZ)J"⟩
abbrev cX10_slope : ByteArray := prog_12_method_64_code
def yX10_slope : MethodName := ⟨RX10, "slope", "(III)J"⟩
def RJx145de : String := "java/io/Serializable"
def TJx145de : u_T := fun k => match k with
  | _ => ("", "", "", false)
def tyJx145de : Nat → FieldType := fun k => match k with
  | _ => .int
abbrev wsJx145de0 : List Cond := u_ws RJx145de TJx145de 0
theorem nmJx145de : ∀ a, a < 0 → ∀ b, b < 0 → a ≠ b → (TJx145de a).2.1 ≠ (TJx145de b).2.1 := by decide +kernel
theorem tyJx145de_ok : ∀ k, k < 0 → parseFieldDescriptor (TJx145de k).2.2.1 = some (tyJx145de k) := by decide +kernel
def RJx8e188 : String := "java/lang/Cloneable"
def TJx8e188 : u_T := fun k => match k with
  | _ => ("", "", "", false)
def tyJx8e188 : Nat → FieldType := fun k => match k with
  | _ => .int
abbrev wsJx8e1880 : List Cond := u_ws RJx8e188 TJx8e188 0
theorem nmJx8e188 : ∀ a, a < 0 → ∀ b, b < 0 → a ≠ b → (TJx8e188 a).2.1 ≠ (TJx8e188 b).2.1 := by decide +kernel
theorem tyJx8e188_ok : ∀ k, k < 0 → parseFieldDescriptor (TJx8e188 k).2.2.1 = some (tyJx8e188 k) := by decide +kernel
def RJxab1ab : String := "java/lang/Iterable"
def TJxab1ab : u_T := fun k => match k with
  | _ => ("", "", "", false)
def tyJxab1ab : Nat → FieldType := fun k => match k with
  | _ => .int
abbrev wsJxab1ab0 : List Cond := u_ws RJxab1ab TJxab1ab 0
theorem nmJxab1ab : ∀ a, a < 0 → ∀ b, b < 0 → a ≠ b → (TJxab1ab a).2.1 ≠ (TJxab1ab b).2.1 := by decide +kernel
theorem tyJxab1ab_ok : ∀ k, k < 0 → parseFieldDescriptor (TJxab1ab k).2.2.1 = some (tyJxab1ab k) := by decide +kernel
def RJ9 : String := "java/lang/Math"
def TJ9 : u_T := fun k => match k with
  | _ => ("", "", "", false)
def tyJ9 : Nat → FieldType := fun k => match k with
  | _ => .int
abbrev wsJ90 : List Cond := u_ws RJ9 TJ9 0
theorem nmJ9 : ∀ a, a < 0 → ∀ b, b < 0 → a ≠ b → (TJ9 a).2.1 ≠ (TJ9 b).2.1 := by decide +kernel
theorem tyJ9_ok : ∀ k, k < 0 → parseFieldDescriptor (TJ9 k).2.2.1 = some (tyJ9 k) := by decide +kernel
abbrev cJ9_abs_067f4 : ByteArray := prog_16_method_61_code
def yJ9_abs_067f4 : MethodName := ⟨RJ9, "abs", "(J)J"⟩
abbrev cJ9_max_7cf53 : ByteArray := prog_16_method_65_code
def yJ9_max_7cf53 : MethodName := ⟨RJ9, "max", "(II)I"⟩
abbrev cJ9_max_f86c9 : ByteArray := prog_16_method_66_code
def yJ9_max_f86c9 : MethodName := ⟨RJ9, "max", "(JJ)J"⟩
abbrev cJ9_min_7cf53 : ByteArray := prog_16_method_69_code
def yJ9_min_7cf53 : MethodName := ⟨RJ9, "min", "(II)I"⟩
def RJ10 : String := "java/lang/System"
def TJ10 : u_T := fun k => match k with
  | _ => ("", "", "", false)
def tyJ10 : Nat → FieldType := fun k => match k with
  | _ => .int
abbrev wsJ100 : List Cond := u_ws RJ10 TJ10 0
theorem nmJ10 : ∀ a, a < 0 → ∀ b, b < 0 → a ≠ b → (TJ10 a).2.1 ≠ (TJ10 b).2.1 := by decide +kernel
theorem tyJ10_ok : ∀ k, k < 0 → parseFieldDescriptor (TJ10 k).2.2.1 = some (tyJ10 k) := by decide +kernel
def RJxa1e45 : String := "java/util/AbstractCollection"
def TJxa1e45 : u_T := fun k => match k with
  | _ => ("", "", "", false)
def tyJxa1e45 : Nat → FieldType := fun k => match k with
  | _ => .int
abbrev wsJxa1e450 : List Cond := u_ws RJxa1e45 TJxa1e45 0
theorem nmJxa1e45 : ∀ a, a < 0 → ∀ b, b < 0 → a ≠ b → (TJxa1e45 a).2.1 ≠ (TJxa1e45 b).2.1 := by decide +kernel
theorem tyJxa1e45_ok : ∀ k, k < 0 → parseFieldDescriptor (TJxa1e45 k).2.2.1 = some (tyJxa1e45 k) := by decide +kernel
abbrev cJxa1e45_init_da8c8 : ByteArray := prog_18_method_1_code
def yJxa1e45_init_da8c8 : MethodName := ⟨RJxa1e45, "<init>", "()V"⟩
def RJxc12de : String := "java/util/AbstractList"
def TJxc12de : u_T := fun k => match k with
  | _ => ("", "", "", false)
def tyJxc12de : Nat → FieldType := fun k => match k with
  | _ => .int
abbrev wsJxc12de0 : List Cond := u_ws RJxc12de TJxc12de 0
theorem nmJxc12de : ∀ a, a < 0 → ∀ b, b < 0 → a ≠ b → (TJxc12de a).2.1 ≠ (TJxc12de b).2.1 := by decide +kernel
theorem tyJxc12de_ok : ∀ k, k < 0 → parseFieldDescriptor (TJxc12de k).2.2.1 = some (tyJxc12de k) := by decide +kernel
abbrev cJxc12de_init_da8c8 : ByteArray := prog_19_method_1_code
def yJxc12de_init_da8c8 : MethodName := ⟨RJxc12de, "<init>", "()V"⟩
def RJx4a65c : String := "java/util/ArrayList"
def TJx4a65c : u_T := fun k => match k with
  | 0 => ("java/util/AbstractList", "modCount", "I", false)
  | 1 => ("java/util/ArrayList", "elementData", "[Ljava/lang/Object;", false)
  | _ => ("java/util/ArrayList", "size", "I", false)
def tyJx4a65c : Nat → FieldType := fun k => match k with
  | 0 => .int
  | 1 => .array (.object "java/lang/Object")
  | _ => .int
abbrev wsJx4a65c0 : List Cond := u_ws RJx4a65c TJx4a65c 3
theorem nmJx4a65c : ∀ a, a < 3 → ∀ b, b < 3 → a ≠ b → (TJx4a65c a).2.1 ≠ (TJx4a65c b).2.1 := by decide +kernel
theorem tyJx4a65c_ok : ∀ k, k < 3 → parseFieldDescriptor (TJx4a65c k).2.2.1 = some (tyJx4a65c k) := by decide +kernel
abbrev cJx4a65c_init_da8c8 : ByteArray := prog_20_method_2_code
def yJx4a65c_init_da8c8 : MethodName := ⟨RJx4a65c, "<init>", "()V"⟩
abbrev cJx4a65c_grow_92f84 : ByteArray := prog_20_method_6_code
def yJx4a65c_grow_92f84 : MethodName := ⟨RJx4a65c, "grow", "(I)[Ljava/lang/Object;"⟩
abbrev cJx4a65c_grow_d5877 : ByteArray := prog_20_method_7_code
def yJx4a65c_grow_d5877 : MethodName := ⟨RJx4a65c, "grow", "()[Ljava/lang/Object;"⟩
abbrev cJx4a65c_size_8abf5 : ByteArray := prog_20_method_8_code
def yJx4a65c_size_8abf5 : MethodName := ⟨RJx4a65c, "size", "()I"⟩
abbrev cJx4a65c_elementData_915e3 : ByteArray := prog_20_method_18_code
def yJx4a65c_elementData_915e3 : MethodName := ⟨RJx4a65c, "elementData", "(I)Ljava/lang/Object;"⟩
abbrev cJx4a65c_get_915e3 : ByteArray := prog_20_method_20_code
def yJx4a65c_get_915e3 : MethodName := ⟨RJx4a65c, "get", "(I)Ljava/lang/Object;"⟩
abbrev cJx4a65c_add_72be8 : ByteArray := prog_20_method_24_code
def yJx4a65c_add_72be8 : MethodName := ⟨RJx4a65c, "add", "(Ljava/lang/Object;[Ljava/lang/Object;I)V"⟩
abbrev cJx4a65c_add_9ea2d : ByteArray := prog_20_method_25_code
def yJx4a65c_add_9ea2d : MethodName := ⟨RJx4a65c, "add", "(Ljava/lang/Object;)Z"⟩
def RJ7 : String := "java/util/Arrays"
def TJ7 : u_T := fun k => match k with
  | _ => ("", "", "", false)
def tyJ7 : Nat → FieldType := fun k => match k with
  | _ => .int
abbrev wsJ70 : List Cond := u_ws RJ7 TJ7 0
theorem nmJ7 : ∀ a, a < 0 → ∀ b, b < 0 → a ≠ b → (TJ7 a).2.1 ≠ (TJ7 b).2.1 := by decide +kernel
theorem tyJ7_ok : ∀ k, k < 0 → parseFieldDescriptor (TJ7 k).2.2.1 = some (tyJ7 k) := by decide +kernel
abbrev cJ7_fill_53178 : ByteArray := prog_21_method_103_code
def yJ7_fill_53178 : MethodName := ⟨RJ7, "fill", "([II)V"⟩
abbrev cJ7_copyOf_1904c : ByteArray := prog_21_method_119_code
def yJ7_copyOf_1904c : MethodName := ⟨RJ7, "copyOf", "([Ljava/lang/Object;I)[Ljava/lang/Object;"⟩
abbrev cJ7_copyOf_6403c : ByteArray := prog_21_method_120_code
def yJ7_copyOf_6403c : MethodName := ⟨RJ7, "copyOf", "([Ljava/lang/Object;ILjava/lang/Class;)[Ljava/lang/Object;"⟩
abbrev cJ7_copyOf_c38d5 : ByteArray := prog_21_method_124_code
def yJ7_copyOf_c38d5 : MethodName := ⟨RJ7, "copyOf", "([JI)[J"⟩
def RJx5ef63 : String := "java/util/Collection"
def TJx5ef63 : u_T := fun k => match k with
  | _ => ("", "", "", false)
def tyJx5ef63 : Nat → FieldType := fun k => match k with
  | _ => .int
abbrev wsJx5ef630 : List Cond := u_ws RJx5ef63 TJx5ef63 0
theorem nmJx5ef63 : ∀ a, a < 0 → ∀ b, b < 0 → a ≠ b → (TJx5ef63 a).2.1 ≠ (TJx5ef63 b).2.1 := by decide +kernel
theorem tyJx5ef63_ok : ∀ k, k < 0 → parseFieldDescriptor (TJx5ef63 k).2.2.1 = some (tyJx5ef63 k) := by decide +kernel
def RJxbd725 : String := "java/util/List"
def TJxbd725 : u_T := fun k => match k with
  | _ => ("", "", "", false)
def tyJxbd725 : Nat → FieldType := fun k => match k with
  | _ => .int
abbrev wsJxbd7250 : List Cond := u_ws RJxbd725 TJxbd725 0
theorem nmJxbd725 : ∀ a, a < 0 → ∀ b, b < 0 → a ≠ b → (TJxbd725 a).2.1 ≠ (TJxbd725 b).2.1 := by decide +kernel
theorem tyJxbd725_ok : ∀ k, k < 0 → parseFieldDescriptor (TJxbd725 k).2.2.1 = some (tyJxbd725 k) := by decide +kernel
def RJ15 : String := "java/util/Objects"
def TJ15 : u_T := fun k => match k with
  | _ => ("", "", "", false)
def tyJ15 : Nat → FieldType := fun k => match k with
  | _ => .int
abbrev wsJ150 : List Cond := u_ws RJ15 TJ15 0
theorem nmJ15 : ∀ a, a < 0 → ∀ b, b < 0 → a ≠ b → (TJ15 a).2.1 ≠ (TJ15 b).2.1 := by decide +kernel
theorem tyJ15_ok : ∀ k, k < 0 → parseFieldDescriptor (TJ15 k).2.2.1 = some (tyJ15 k) := by decide +kernel
abbrev cJ15_checkIndex_7cf53 : ByteArray := prog_24_method_17_code
def yJ15_checkIndex_7cf53 : MethodName := ⟨RJ15, "checkIndex", "(II)I"⟩
def RJxf0a74 : String := "java/util/RandomAccess"
def TJxf0a74 : u_T := fun k => match k with
  | _ => ("", "", "", false)
def tyJxf0a74 : Nat → FieldType := fun k => match k with
  | _ => .int
abbrev wsJxf0a740 : List Cond := u_ws RJxf0a74 TJxf0a74 0
theorem nmJxf0a74 : ∀ a, a < 0 → ∀ b, b < 0 → a ≠ b → (TJxf0a74 a).2.1 ≠ (TJxf0a74 b).2.1 := by decide +kernel
theorem tyJxf0a74_ok : ∀ k, k < 0 → parseFieldDescriptor (TJxf0a74 k).2.2.1 = some (tyJxf0a74 k) := by decide +kernel
def RJxa66e6 : String := "java/util/SequencedCollection"
def TJxa66e6 : u_T := fun k => match k with
  | _ => ("", "", "", false)
def tyJxa66e6 : Nat → FieldType := fun k => match k with
  | _ => .int
abbrev wsJxa66e60 : List Cond := u_ws RJxa66e6 TJxa66e6 0
theorem nmJxa66e6 : ∀ a, a < 0 → ∀ b, b < 0 → a ≠ b → (TJxa66e6 a).2.1 ≠ (TJxa66e6 b).2.1 := by decide +kernel
theorem tyJxa66e6_ok : ∀ k, k < 0 → parseFieldDescriptor (TJxa66e6 k).2.2.1 = some (tyJxa66e6 k) := by decide +kernel
def RJ8 : String := "jdk/internal/util/ArraysSupport"
def TJ8 : u_T := fun k => match k with
  | _ => ("", "", "", false)
def tyJ8 : Nat → FieldType := fun k => match k with
  | _ => .int
abbrev wsJ80 : List Cond := u_ws RJ8 TJ8 0
theorem nmJ8 : ∀ a, a < 0 → ∀ b, b < 0 → a ≠ b → (TJ8 a).2.1 ≠ (TJ8 b).2.1 := by decide +kernel
theorem tyJ8_ok : ∀ k, k < 0 → parseFieldDescriptor (TJ8 k).2.2.1 = some (tyJ8 k) := by decide +kernel
abbrev cJ8_newLength_cabcc : ByteArray := prog_27_method_27_code
def yJ8_newLength_cabcc : MethodName := ⟨RJ8, "newLength", "(III)I"⟩
abbrev cJ8_hugeLength_7cf53 : ByteArray := prog_27_method_28_code
def yJ8_hugeLength_7cf53 : MethodName := ⟨RJ8, "hugeLength", "(II)I"⟩
def RJ3 : String := "jdk/internal/util/Preconditions"
def TJ3 : u_T := fun k => match k with
  | _ => ("", "", "", false)
def tyJ3 : Nat → FieldType := fun k => match k with
  | _ => .int
abbrev wsJ30 : List Cond := u_ws RJ3 TJ3 0
theorem nmJ3 : ∀ a, a < 0 → ∀ b, b < 0 → a ≠ b → (TJ3 a).2.1 ≠ (TJ3 b).2.1 := by decide +kernel
theorem tyJ3_ok : ∀ k, k < 0 → parseFieldDescriptor (TJ3 k).2.2.1 = some (tyJ3 k) := by decide +kernel
abbrev cJ3_checkIndex_8e157 : ByteArray := prog_28_method_11_code
def yJ3_checkIndex_8e157 : MethodName := ⟨RJ3, "checkIndex", "(IILjava/util/function/BiFunction;)I"⟩
def RL : String := "ParametricFlowLaw"
abbrev cL_law : ByteArray := code
def yL_law : MethodName := ⟨RL, "law", "([I)Z"⟩
