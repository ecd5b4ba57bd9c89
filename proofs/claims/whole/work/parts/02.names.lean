def RX0 : String := "GridVault$Cells"
def TX0 : u_T := fun k => match k with
  | 0 => ("GridVault$Cells", "numbers", "[J", true)
  | _ => ("GridVault$Cells", "marks", "[J", true)
def tyX0 : Nat → FieldType := fun k => match k with
  | 0 => .array .long
  | _ => .array .long
theorem nmX0 : ∀ a, a < 2 → ∀ b, b < 2 → a ≠ b → (TX0 a).2.1 ≠ (TX0 b).2.1 := by decide +kernel
theorem tyX0_ok : ∀ k, k < 2 → parseFieldDescriptor (TX0 k).2.2.1 = some (tyX0 k) := by decide +kernel
abbrev cX0_init : ByteArray := prog_2_method_1_code
def yX0_init : MethodName := ⟨RX0, "<init>", "(I)V"⟩
abbrev cX0_has : ByteArray := prog_2_method_2_code
def yX0_has : MethodName := ⟨RX0, "has", "(I)Z"⟩
abbrev cX0_number : ByteArray := prog_2_method_3_code
def yX0_number : MethodName := ⟨RX0, "number", "(I)J"⟩
abbrev cX0_set : ByteArray := prog_2_method_4_code
def yX0_set : MethodName := ⟨RX0, "set", "(IJ)V"⟩
abbrev cX0_empty : ByteArray := prog_2_method_5_code
def yX0_empty : MethodName := ⟨RX0, "empty", "(I)V"⟩
abbrev cX0_isInside : ByteArray := prog_2_method_6_code
def yX0_isInside : MethodName := ⟨RX0, "isInside", "(I)Z"⟩
abbrev cX0_copyFrom : ByteArray := prog_2_method_7_code
def yX0_copyFrom : MethodName := ⟨RX0, "copyFrom", "(LGridVault$Cells;)V"⟩
abbrev cX0_filled : ByteArray := prog_2_method_8_code
def yX0_filled : MethodName := ⟨RX0, "filled", "()I"⟩
abbrev cX0_isSame : ByteArray := prog_2_method_9_code
def yX0_isSame : MethodName := ⟨RX0, "isSame", "(LGridVault$Cells;I)Z"⟩
abbrev cX0_differing : ByteArray := prog_2_method_10_code
def yX0_differing : MethodName := ⟨RX0, "differing", "(LGridVault$Cells;)I"⟩
def RX1 : String := "GridVault$Chunk"
def TX1 : u_T := fun k => match k with
  | _ => ("GridVault$Chunk", "places", "[I", true)
def tyX1 : Nat → FieldType := fun k => match k with
  | _ => .array .int
theorem nmX1 : ∀ a, a < 1 → ∀ b, b < 1 → a ≠ b → (TX1 a).2.1 ≠ (TX1 b).2.1 := by decide +kernel
theorem tyX1_ok : ∀ k, k < 1 → parseFieldDescriptor (TX1 k).2.2.1 = some (tyX1 k) := by decide +kernel
abbrev cX1_init : ByteArray := prog_3_method_1_code
def yX1_init : MethodName := ⟨RX1, "<init>", "(LGridVault$Shape;III)V"⟩
abbrev cX1_isSame : ByteArray := prog_3_method_2_code
def yX1_isSame : MethodName := ⟨RX1, "isSame", "(LGridVault$Cells;LGridVault$Cells;)Z"⟩
abbrev cX1_octets : ByteArray := prog_3_method_3_code
def yX1_octets : MethodName := ⟨RX1, "octets", "(LGridVault$Cells;)I"⟩
abbrev cX1_octetsOf : ByteArray := prog_3_method_4_code
def yX1_octetsOf : MethodName := ⟨RX1, "octetsOf", "(J)I"⟩
def RX2 : String := "GridVault$Each"
def TX2 : u_T := fun k => match k with
  | 0 => ("GridVault$Node", "shape", "LGridVault$Shape;", true)
  | 1 => ("GridVault$Node", "depth", "I", true)
  | 2 => ("GridVault$Node", "cells", "LGridVault$Cells;", true)
  | 3 => ("GridVault$Node", "asked", "[J", true)
  | 4 => ("GridVault$Each", "source", "LGridVault$Node;", true)
  | 5 => ("GridVault$Each", "rule", "I", true)
  | _ => ("GridVault$Each", "c", "J", true)
def tyX2 : Nat → FieldType := fun k => match k with
  | 0 => .object "GridVault$Shape"
  | 1 => .int
  | 2 => .object "GridVault$Cells"
  | 3 => .array .long
  | 4 => .object "GridVault$Node"
  | 5 => .int
  | _ => .long
theorem nmX2 : ∀ a, a < 7 → ∀ b, b < 7 → a ≠ b → (TX2 a).2.1 ≠ (TX2 b).2.1 := by decide +kernel
theorem tyX2_ok : ∀ k, k < 7 → parseFieldDescriptor (TX2 k).2.2.1 = some (tyX2 k) := by decide +kernel
abbrev cX2_init : ByteArray := prog_4_method_1_code
def yX2_init : MethodName := ⟨RX2, "<init>", "(LGridVault$Node;IJ)V"⟩
abbrev cX2_work : ByteArray := prog_4_method_2_code
def yX2_work : MethodName := ⟨RX2, "work", "(I)V"⟩
abbrev cX2_change : ByteArray := prog_4_method_3_code
def yX2_change : MethodName := ⟨RX2, "change", "(IJ)V"⟩
abbrev cX2_isKept : ByteArray := prog_4_method_4_code
def yX2_isKept : MethodName := ⟨RX2, "isKept", "(J)Z"⟩
def RX3 : String := "GridVault$Folded"
def TX3 : u_T := fun k => match k with
  | 0 => ("GridVault$Node", "shape", "LGridVault$Shape;", true)
  | 1 => ("GridVault$Node", "depth", "I", true)
  | 2 => ("GridVault$Node", "cells", "LGridVault$Cells;", true)
  | 3 => ("GridVault$Node", "asked", "[J", true)
  | 4 => ("GridVault$Folded", "source", "LGridVault$Node;", true)
  | 5 => ("GridVault$Folded", "d", "I", true)
  | 6 => ("GridVault$Folded", "kind", "I", true)
  | 7 => ("GridVault$Folded", "reach", "I", true)
  | _ => ("GridVault$Folded", "tally", "LGridVault$Tally;", true)
def tyX3 : Nat → FieldType := fun k => match k with
  | 0 => .object "GridVault$Shape"
  | 1 => .int
  | 2 => .object "GridVault$Cells"
  | 3 => .array .long
  | 4 => .object "GridVault$Node"
  | 5 => .int
  | 6 => .int
  | 7 => .int
  | _ => .object "GridVault$Tally"
theorem nmX3 : ∀ a, a < 9 → ∀ b, b < 9 → a ≠ b → (TX3 a).2.1 ≠ (TX3 b).2.1 := by decide +kernel
theorem tyX3_ok : ∀ k, k < 9 → parseFieldDescriptor (TX3 k).2.2.1 = some (tyX3 k) := by decide +kernel
abbrev cX3_init : ByteArray := prog_5_method_1_code
def yX3_init : MethodName := ⟨RX3, "<init>", "(LGridVault$Shape;LGridVault$Node;IIILGridVault$Tally;)V"⟩
abbrev cX3_work : ByteArray := prog_5_method_2_code
def yX3_work : MethodName := ⟨RX3, "work", "(I)V"⟩
abbrev cX3_firstPlace : ByteArray := prog_5_method_3_code
def yX3_firstPlace : MethodName := ⟨RX3, "firstPlace", "(I)I"⟩
abbrev cX3_lastPlace : ByteArray := prog_5_method_4_code
def yX3_lastPlace : MethodName := ⟨RX3, "lastPlace", "(I)I"⟩
abbrev cX3_sourcePlace : ByteArray := prog_5_method_5_code
def yX3_sourcePlace : MethodName := ⟨RX3, "sourcePlace", "(III)I"⟩
def RX4 : String := "GridVault$Joined"
def TX4 : u_T := fun k => match k with
  | 0 => ("GridVault$Node", "shape", "LGridVault$Shape;", true)
  | 1 => ("GridVault$Node", "depth", "I", true)
  | 2 => ("GridVault$Node", "cells", "LGridVault$Cells;", true)
  | 3 => ("GridVault$Node", "asked", "[J", true)
  | 4 => ("GridVault$Joined", "first", "LGridVault$Node;", true)
  | 5 => ("GridVault$Joined", "second", "LGridVault$Node;", true)
  | _ => ("GridVault$Joined", "op", "I", true)
def tyX4 : Nat → FieldType := fun k => match k with
  | 0 => .object "GridVault$Shape"
  | 1 => .int
  | 2 => .object "GridVault$Cells"
  | 3 => .array .long
  | 4 => .object "GridVault$Node"
  | 5 => .object "GridVault$Node"
  | _ => .int
theorem nmX4 : ∀ a, a < 7 → ∀ b, b < 7 → a ≠ b → (TX4 a).2.1 ≠ (TX4 b).2.1 := by decide +kernel
theorem tyX4_ok : ∀ k, k < 7 → parseFieldDescriptor (TX4 k).2.2.1 = some (tyX4 k) := by decide +kernel
abbrev cX4_init : ByteArray := prog_6_method_1_code
def yX4_init : MethodName := ⟨RX4, "<init>", "(LGridVault$Shape;LGridVault$Node;LGridVault$Node;I)V"⟩
abbrev cX4_work : ByteArray := prog_6_method_2_code
def yX4_work : MethodName := ⟨RX4, "work", "(I)V"⟩
abbrev cX4_joined : ByteArray := prog_6_method_3_code
def yX4_joined : MethodName := ⟨RX4, "joined", "(JJ)J"⟩
def RX5 : String := "GridVault$Node"
def TX5 : u_T := fun k => match k with
  | _ => ("", "", "", false)
def tyX5 : Nat → FieldType := fun k => match k with
  | _ => .int
theorem nmX5 : ∀ a, a < 0 → ∀ b, b < 0 → a ≠ b → (TX5 a).2.1 ≠ (TX5 b).2.1 := by decide +kernel
theorem tyX5_ok : ∀ k, k < 0 → parseFieldDescriptor (TX5 k).2.2.1 = some (tyX5 k) := by decide +kernel
abbrev cX5_init : ByteArray := prog_7_method_1_code
def yX5_init : MethodName := ⟨RX5, "<init>", "(LGridVault$Shape;I)V"⟩
abbrev cX5_form : ByteArray := prog_7_method_3_code
def yX5_form : MethodName := ⟨RX5, "form", "()LGridVault$Shape;"⟩
abbrev cX5_depth : ByteArray := prog_7_method_4_code
def yX5_depth : MethodName := ⟨RX5, "depth", "()I"⟩
abbrev cX5_cells : ByteArray := prog_7_method_5_code
def yX5_cells : MethodName := ⟨RX5, "cells", "()LGridVault$Cells;"⟩
abbrev cX5_settle : ByteArray := prog_7_method_6_code
def yX5_settle : MethodName := ⟨RX5, "settle", "(IJ)V"⟩
abbrev cX5_holds : ByteArray := prog_7_method_7_code
def yX5_holds : MethodName := ⟨RX5, "holds", "(I)Z"⟩
abbrev cX5_number : ByteArray := prog_7_method_8_code
def yX5_number : MethodName := ⟨RX5, "number", "(I)J"⟩
abbrev cX5_filled : ByteArray := prog_7_method_9_code
def yX5_filled : MethodName := ⟨RX5, "filled", "()I"⟩
def RX6 : String := "GridVault$Product"
def TX6 : u_T := fun k => match k with
  | 0 => ("GridVault$Node", "shape", "LGridVault$Shape;", true)
  | 1 => ("GridVault$Node", "depth", "I", true)
  | 2 => ("GridVault$Node", "cells", "LGridVault$Cells;", true)
  | 3 => ("GridVault$Node", "asked", "[J", true)
  | 4 => ("GridVault$Product", "left", "LGridVault$Node;", true)
  | _ => ("GridVault$Product", "right", "LGridVault$Node;", true)
def tyX6 : Nat → FieldType := fun k => match k with
  | 0 => .object "GridVault$Shape"
  | 1 => .int
  | 2 => .object "GridVault$Cells"
  | 3 => .array .long
  | 4 => .object "GridVault$Node"
  | _ => .object "GridVault$Node"
theorem nmX6 : ∀ a, a < 6 → ∀ b, b < 6 → a ≠ b → (TX6 a).2.1 ≠ (TX6 b).2.1 := by decide +kernel
theorem tyX6_ok : ∀ k, k < 6 → parseFieldDescriptor (TX6 k).2.2.1 = some (tyX6 k) := by decide +kernel
abbrev cX6_init : ByteArray := prog_8_method_1_code
def yX6_init : MethodName := ⟨RX6, "<init>", "(LGridVault$Shape;LGridVault$Node;LGridVault$Node;)V"⟩
abbrev cX6_work : ByteArray := prog_8_method_2_code
def yX6_work : MethodName := ⟨RX6, "work", "(I)V"⟩
def RX7 : String := "GridVault$Shape"
def TX7 : u_T := fun k => match k with
  | 0 => ("GridVault$Shape", "dimensions", "I", true)
  | 1 => ("GridVault$Shape", "lows", "[I", true)
  | 2 => ("GridVault$Shape", "highs", "[I", true)
  | 3 => ("GridVault$Shape", "lengths", "[I", true)
  | 4 => ("GridVault$Shape", "steps", "[I", true)
  | _ => ("GridVault$Shape", "size", "I", true)
def tyX7 : Nat → FieldType := fun k => match k with
  | 0 => .int
  | 1 => .array .int
  | 2 => .array .int
  | 3 => .array .int
  | 4 => .array .int
  | _ => .int
theorem nmX7 : ∀ a, a < 6 → ∀ b, b < 6 → a ≠ b → (TX7 a).2.1 ≠ (TX7 b).2.1 := by decide +kernel
theorem tyX7_ok : ∀ k, k < 6 → parseFieldDescriptor (TX7 k).2.2.1 = some (tyX7 k) := by decide +kernel
abbrev cX7_init : ByteArray := prog_9_method_1_code
def yX7_init : MethodName := ⟨RX7, "<init>", "(I[I[I)V"⟩
abbrev cX7_dimensions : ByteArray := prog_9_method_2_code
def yX7_dimensions : MethodName := ⟨RX7, "dimensions", "()I"⟩
abbrev cX7_low : ByteArray := prog_9_method_3_code
def yX7_low : MethodName := ⟨RX7, "low", "(I)I"⟩
abbrev cX7_high : ByteArray := prog_9_method_4_code
def yX7_high : MethodName := ⟨RX7, "high", "(I)I"⟩
abbrev cX7_length : ByteArray := prog_9_method_5_code
def yX7_length : MethodName := ⟨RX7, "length", "(I)I"⟩
abbrev cX7_step : ByteArray := prog_9_method_6_code
def yX7_step : MethodName := ⟨RX7, "step", "(I)I"⟩
abbrev cX7_size : ByteArray := prog_9_method_7_code
def yX7_size : MethodName := ⟨RX7, "size", "()I"⟩
abbrev cX7_hasDimension : ByteArray := prog_9_method_8_code
def yX7_hasDimension : MethodName := ⟨RX7, "hasDimension", "(I)Z"⟩
abbrev cX7_hasRange : ByteArray := prog_9_method_9_code
def yX7_hasRange : MethodName := ⟨RX7, "hasRange", "(III)Z"⟩
abbrev cX7_isWithinLimits : ByteArray := prog_9_method_10_code
def yX7_isWithinLimits : MethodName := ⟨RX7, "isWithinLimits", "()Z"⟩
abbrev cX7_indexOf : ByteArray := prog_9_method_11_code
def yX7_indexOf : MethodName := ⟨RX7, "indexOf", "(III)I"⟩
abbrev cX7_offset : ByteArray := prog_9_method_12_code
def yX7_offset : MethodName := ⟨RX7, "offset", "(II)I"⟩
abbrev cX7_placeOf : ByteArray := prog_9_method_13_code
def yX7_placeOf : MethodName := ⟨RX7, "placeOf", "(II)I"⟩
abbrev cX7_ranged : ByteArray := prog_9_method_14_code
def yX7_ranged : MethodName := ⟨RX7, "ranged", "(III)LGridVault$Shape;"⟩
abbrev cX7_without : ByteArray := prog_9_method_15_code
def yX7_without : MethodName := ⟨RX7, "without", "(I)LGridVault$Shape;"⟩
abbrev cX7_swapped : ByteArray := prog_9_method_16_code
def yX7_swapped : MethodName := ⟨RX7, "swapped", "(II)LGridVault$Shape;"⟩
abbrev cX7_meets : ByteArray := prog_9_method_17_code
def yX7_meets : MethodName := ⟨RX7, "meets", "(LGridVault$Shape;)Z"⟩
abbrev cX7_common : ByteArray := prog_9_method_18_code
def yX7_common : MethodName := ⟨RX7, "common", "(LGridVault$Shape;)LGridVault$Shape;"⟩
abbrev cX7_replaced : ByteArray := prog_9_method_19_code
def yX7_replaced : MethodName := ⟨RX7, "replaced", "([III)[I"⟩
abbrev cX7_dropped : ByteArray := prog_9_method_20_code
def yX7_dropped : MethodName := ⟨RX7, "dropped", "([II)[I"⟩
def RX8 : String := "GridVault$Tally"
def TX8 : u_T := fun k => match k with
  | 0 => ("GridVault$Tally", "what", "I", true)
  | 1 => ("GridVault$Tally", "taken", "I", false)
  | _ => ("GridVault$Tally", "result", "J", false)
def tyX8 : Nat → FieldType := fun k => match k with
  | 0 => .int
  | 1 => .int
  | _ => .long
theorem nmX8 : ∀ a, a < 3 → ∀ b, b < 3 → a ≠ b → (TX8 a).2.1 ≠ (TX8 b).2.1 := by decide +kernel
theorem tyX8_ok : ∀ k, k < 3 → parseFieldDescriptor (TX8 k).2.2.1 = some (tyX8 k) := by decide +kernel
abbrev cX8_init : ByteArray := prog_10_method_1_code
def yX8_init : MethodName := ⟨RX8, "<init>", "(I)V"⟩
abbrev cX8_isKnown : ByteArray := prog_10_method_2_code
def yX8_isKnown : MethodName := ⟨RX8, "isKnown", "(I)Z"⟩
abbrev cX8_takeRow : ByteArray := prog_10_method_3_code
def yX8_takeRow : MethodName := ⟨RX8, "takeRow", "(LGridVault$Node;III)V"⟩
abbrev cX8_take : ByteArray := prog_10_method_4_code
def yX8_take : MethodName := ⟨RX8, "take", "(J)V"⟩
abbrev cX8_isOfNone : ByteArray := prog_10_method_5_code
def yX8_isOfNone : MethodName := ⟨RX8, "isOfNone", "()Z"⟩
abbrev cX8_result : ByteArray := prog_10_method_6_code
def yX8_result : MethodName := ⟨RX8, "result", "()J"⟩
def RX9 : String := "GridVault$Version"
def TX9 : u_T := fun k => match k with
  | 0 => ("GridVault$Node", "shape", "LGridVault$Shape;", true)
  | 1 => ("GridVault$Node", "depth", "I", true)
  | 2 => ("GridVault$Node", "cells", "LGridVault$Cells;", true)
  | 3 => ("GridVault$Node", "asked", "[J", true)
  | 4 => ("GridVault$Version", "parent", "I", true)
  | 5 => ("GridVault$Version", "differingChunks", "I", false)
  | _ => ("GridVault$Version", "octets", "I", false)
def tyX9 : Nat → FieldType := fun k => match k with
  | 0 => .object "GridVault$Shape"
  | 1 => .int
  | 2 => .object "GridVault$Cells"
  | 3 => .array .long
  | 4 => .int
  | 5 => .int
  | _ => .int
theorem nmX9 : ∀ a, a < 7 → ∀ b, b < 7 → a ≠ b → (TX9 a).2.1 ≠ (TX9 b).2.1 := by decide +kernel
theorem tyX9_ok : ∀ k, k < 7 → parseFieldDescriptor (TX9 k).2.2.1 = some (tyX9 k) := by decide +kernel
abbrev cX9_init : ByteArray := prog_11_method_1_code
def yX9_init : MethodName := ⟨RX9, "<init>", "(LGridVault$Shape;I)V"⟩
abbrev cX9_encode : ByteArray := prog_11_method_2_code
def yX9_encode : MethodName := ⟨RX9, "encode", "(LGridVault$Cells;LGridVault$Version;Ljava/util/List;)V"⟩
abbrev cX9_work : ByteArray := prog_11_method_3_code
def yX9_work : MethodName := ⟨RX9, "work", "(I)V"⟩
abbrev cX9_parent : ByteArray := prog_11_method_4_code
def yX9_parent : MethodName := ⟨RX9, "parent", "()I"⟩
abbrev cX9_differingChunks : ByteArray := prog_11_method_5_code
def yX9_differingChunks : MethodName := ⟨RX9, "differingChunks", "()I"⟩
abbrev cX9_octets : ByteArray := prog_11_method_6_code
def yX9_octets : MethodName := ⟨RX9, "octets", "()I"⟩
def RX10 : String := "GridVault$View"
def TX10 : u_T := fun k => match k with
  | 0 => ("GridVault$Node", "shape", "LGridVault$Shape;", true)
  | 1 => ("GridVault$Node", "depth", "I", true)
  | 2 => ("GridVault$Node", "cells", "LGridVault$Cells;", true)
  | 3 => ("GridVault$Node", "asked", "[J", true)
  | 4 => ("GridVault$View", "source", "LGridVault$Node;", true)
  | 5 => ("GridVault$View", "tellers", "[I", true)
  | _ => ("GridVault$View", "at", "I", true)
def tyX10 : Nat → FieldType := fun k => match k with
  | 0 => .object "GridVault$Shape"
  | 1 => .int
  | 2 => .object "GridVault$Cells"
  | 3 => .array .long
  | 4 => .object "GridVault$Node"
  | 5 => .array .int
  | _ => .int
theorem nmX10 : ∀ a, a < 7 → ∀ b, b < 7 → a ≠ b → (TX10 a).2.1 ≠ (TX10 b).2.1 := by decide +kernel
theorem tyX10_ok : ∀ k, k < 7 → parseFieldDescriptor (TX10 k).2.2.1 = some (tyX10 k) := by decide +kernel
abbrev cX10_init : ByteArray := prog_12_method_1_code
def yX10_init : MethodName := ⟨RX10, "<init>", "(LGridVault$Shape;LGridVault$Node;[II)V"⟩
abbrev cX10_straight : ByteArray := prog_12_method_2_code
def yX10_straight : MethodName := ⟨RX10, "straight", "()[I"⟩
abbrev cX10_skipping : ByteArray := prog_12_method_3_code
def yX10_skipping : MethodName := ⟨RX10, "skipping", "(I)[I"⟩
abbrev cX10_exchanging : ByteArray := prog_12_method_4_code
def yX10_exchanging : MethodName := ⟨RX10, "exchanging", "(II)[I"⟩
abbrev cX10_work : ByteArray := prog_12_method_5_code
def yX10_work : MethodName := ⟨RX10, "work", "(I)V"⟩
abbrev cX10_sourcePlace : ByteArray := prog_12_method_6_code
def yX10_sourcePlace : MethodName := ⟨RX10, "sourcePlace", "(II)I"⟩
def RX11 : String := "GridVault"
def TX11 : u_T := fun k => match k with
  | 0 => ("GridVault", "versions", "Ljava/util/List;", true)
  | 1 => ("GridVault", "nodes", "Ljava/util/List;", true)
  | 2 => ("GridVault", "chunks", "Ljava/util/List;", true)
  | 3 => ("GridVault", "frame", "LGridVault$Shape;", false)
  | 4 => ("GridVault", "desk", "LGridVault$Cells;", false)
  | 5 => ("GridVault", "deskVersion", "I", false)
  | _ => ("GridVault", "begins", "I", false)
def tyX11 : Nat → FieldType := fun k => match k with
  | 0 => .object "java/util/List"
  | 1 => .object "java/util/List"
  | 2 => .object "java/util/List"
  | 3 => .object "GridVault$Shape"
  | 4 => .object "GridVault$Cells"
  | 5 => .int
  | _ => .int
theorem nmX11 : ∀ a, a < 7 → ∀ b, b < 7 → a ≠ b → (TX11 a).2.1 ≠ (TX11 b).2.1 := by decide +kernel
theorem tyX11_ok : ∀ k, k < 7 → parseFieldDescriptor (TX11 k).2.2.1 = some (tyX11 k) := by decide +kernel
abbrev cX11_init : ByteArray := prog_1_method_1_code
def yX11_init : MethodName := ⟨RX11, "<init>", "()V"⟩
abbrev cX11_begin : ByteArray := prog_1_method_2_code
def yX11_begin : MethodName := ⟨RX11, "begin", "(IIIIIII)V"⟩
abbrev cX11_put : ByteArray := prog_1_method_3_code
def yX11_put : MethodName := ⟨RX11, "put", "(IIIJ)V"⟩
abbrev cX11_erase : ByteArray := prog_1_method_4_code
def yX11_erase : MethodName := ⟨RX11, "erase", "(III)V"⟩
abbrev cX11_fill : ByteArray := prog_1_method_5_code
def yX11_fill : MethodName := ⟨RX11, "fill", "(IIIJ)V"⟩
abbrev cX11_commit : ByteArray := prog_1_method_6_code
def yX11_commit : MethodName := ⟨RX11, "commit", "()I"⟩
abbrev cX11_open : ByteArray := prog_1_method_7_code
def yX11_open : MethodName := ⟨RX11, "open", "(I)V"⟩
abbrev cX11_version : ByteArray := prog_1_method_8_code
def yX11_version : MethodName := ⟨RX11, "version", "(II)I"⟩
abbrev cX11_differ : ByteArray := prog_1_method_9_code
def yX11_differ : MethodName := ⟨RX11, "differ", "(II)I"⟩
abbrev cX11_read : ByteArray := prog_1_method_10_code
def yX11_read : MethodName := ⟨RX11, "read", "(I)I"⟩
abbrev cX11_sub : ByteArray := prog_1_method_11_code
def yX11_sub : MethodName := ⟨RX11, "sub", "(IIII)I"⟩
abbrev cX11_slice : ByteArray := prog_1_method_12_code
def yX11_slice : MethodName := ⟨RX11, "slice", "(III)I"⟩
abbrev cX11_extend : ByteArray := prog_1_method_13_code
def yX11_extend : MethodName := ⟨RX11, "extend", "(IIII)I"⟩
abbrev cX11_apply : ByteArray := prog_1_method_14_code
def yX11_apply : MethodName := ⟨RX11, "apply", "(IIJ)I"⟩
abbrev cX11_filter : ByteArray := prog_1_method_15_code
def yX11_filter : MethodName := ⟨RX11, "filter", "(IIJ)I"⟩
abbrev cX11_join : ByteArray := prog_1_method_16_code
def yX11_join : MethodName := ⟨RX11, "join", "(III)I"⟩
abbrev cX11_gather : ByteArray := prog_1_method_17_code
def yX11_gather : MethodName := ⟨RX11, "gather", "(III)I"⟩
abbrev cX11_regrid : ByteArray := prog_1_method_18_code
def yX11_regrid : MethodName := ⟨RX11, "regrid", "(IIII)I"⟩
abbrev cX11_window : ByteArray := prog_1_method_19_code
def yX11_window : MethodName := ⟨RX11, "window", "(IIII)I"⟩
abbrev cX11_swap : ByteArray := prog_1_method_20_code
def yX11_swap : MethodName := ⟨RX11, "swap", "(III)I"⟩
abbrev cX11_product : ByteArray := prog_1_method_21_code
def yX11_product : MethodName := ⟨RX11, "product", "(II)I"⟩
abbrev cX11_shape : ByteArray := prog_1_method_22_code
def yX11_shape : MethodName := ⟨RX11, "shape", "(II)I"⟩
abbrev cX11_cell : ByteArray := prog_1_method_23_code
def yX11_cell : MethodName := ⟨RX11, "cell", "(IIII)J"⟩
abbrev cX11_all : ByteArray := prog_1_method_24_code
def yX11_all : MethodName := ⟨RX11, "all", "(II)J"⟩
abbrev cX11_count : ByteArray := prog_1_method_25_code
def yX11_count : MethodName := ⟨RX11, "count", "(I)I"⟩
abbrev cX11_startAnew : ByteArray := prog_1_method_26_code
def yX11_startAnew : MethodName := ⟨RX11, "startAnew", "(LGridVault$Shape;)V"⟩
abbrev cX11_cutChunks : ByteArray := prog_1_method_27_code
def yX11_cutChunks : MethodName := ⟨RX11, "cutChunks", "()V"⟩
abbrev cX11_isArrayRange : ByteArray := prog_1_method_28_code
def yX11_isArrayRange : MethodName := ⟨RX11, "isArrayRange", "(II)Z"⟩
abbrev cX11_deskIndex : ByteArray := prog_1_method_29_code
def yX11_deskIndex : MethodName := ⟨RX11, "deskIndex", "(III)I"⟩
abbrev cX11_versionAt : ByteArray := prog_1_method_30_code
def yX11_versionAt : MethodName := ⟨RX11, "versionAt", "(I)LGridVault$Version;"⟩
abbrev cX11_nodeAt : ByteArray := prog_1_method_31_code
def yX11_nodeAt : MethodName := ⟨RX11, "nodeAt", "(I)LGridVault$Node;"⟩
abbrev cX11_need : ByteArray := prog_1_method_32_code
def yX11_need : MethodName := ⟨RX11, "need", "(Z)V"⟩
abbrev cX11_needRoom : ByteArray := prog_1_method_33_code
def yX11_needRoom : MethodName := ⟨RX11, "needRoom", "()V"⟩
abbrev cX11_needLimits : ByteArray := prog_1_method_34_code
def yX11_needLimits : MethodName := ⟨RX11, "needLimits", "(LGridVault$Shape;I)V"⟩
abbrev cX11_keep : ByteArray := prog_1_method_35_code
def yX11_keep : MethodName := ⟨RX11, "keep", "(LGridVault$Node;)I"⟩
abbrev cX11_keepRanged : ByteArray := prog_1_method_36_code
def yX11_keepRanged : MethodName := ⟨RX11, "keepRanged", "(LGridVault$Node;III)I"⟩
abbrev cX11_keepFolded : ByteArray := prog_1_method_37_code
def yX11_keepFolded : MethodName := ⟨RX11, "keepFolded", "(LGridVault$Shape;LGridVault$Node;IIII)I"⟩
def RX12 : String := "GridVaultModel$Grid"
def TX12 : u_T := fun k => match k with
  | 0 => ("GridVaultModel$Grid", "dims", "I", false)
  | 1 => ("GridVaultModel$Grid", "depth", "I", false)
  | 2 => ("GridVaultModel$Grid", "low", "[I", true)
  | 3 => ("GridVaultModel$Grid", "high", "[I", true)
  | 4 => ("GridVaultModel$Grid", "v", "[J", false)
  | _ => ("GridVaultModel$Grid", "has", "[Z", false)
def tyX12 : Nat → FieldType := fun k => match k with
  | 0 => .int
  | 1 => .int
  | 2 => .array .int
  | 3 => .array .int
  | 4 => .array .long
  | _ => .array .boolean
theorem nmX12 : ∀ a, a < 6 → ∀ b, b < 6 → a ≠ b → (TX12 a).2.1 ≠ (TX12 b).2.1 := by decide +kernel
theorem tyX12_ok : ∀ k, k < 6 → parseFieldDescriptor (TX12 k).2.2.1 = some (tyX12 k) := by decide +kernel
abbrev cX12_init : ByteArray := prog_15_method_1_code
def yX12_init : MethodName := ⟨RX12, "<init>", "()V"⟩
abbrev cX12_size : ByteArray := prog_15_method_2_code
def yX12_size : MethodName := ⟨RX12, "size", "(I)I"⟩
abbrev cX12_cells : ByteArray := prog_15_method_3_code
def yX12_cells : MethodName := ⟨RX12, "cells", "()I"⟩
abbrev cX12_make : ByteArray := prog_15_method_4_code
def yX12_make : MethodName := ⟨RX12, "make", "()V"⟩
abbrev cX12_in : ByteArray := prog_15_method_5_code
def yX12_in : MethodName := ⟨RX12, "in", "(III)Z"⟩
abbrev cX12_at : ByteArray := prog_15_method_6_code
def yX12_at : MethodName := ⟨RX12, "at", "(III)I"⟩
abbrev cX12_filled : ByteArray := prog_15_method_7_code
def yX12_filled : MethodName := ⟨RX12, "filled", "()I"⟩
def RX13 : String := "GridVaultModel"
def TX13 : u_T := fun k => match k with
  | 0 => ("GridVaultModel", "err", "I", false)
  | 1 => ("GridVaultModel", "versions", "[LGridVaultModel$Grid;", true)
  | 2 => ("GridVaultModel", "nodes", "[LGridVaultModel$Grid;", true)
  | 3 => ("GridVaultModel", "parents", "[I", true)
  | 4 => ("GridVaultModel", "place", "[I", true)
  | 5 => ("GridVaultModel", "desk", "LGridVaultModel$Grid;", false)
  | 6 => ("GridVaultModel", "versionMany", "I", false)
  | 7 => ("GridVaultModel", "nodeMany", "I", false)
  | 8 => ("GridVaultModel", "of", "I", false)
  | 9 => ("GridVaultModel", "begun", "I", false)
  | 10 => ("GridVaultModel", "taken", "I", false)
  | 11 => ("GridVaultModel", "sum", "J", false)
  | 12 => ("GridVaultModel", "least", "J", false)
  | _ => ("GridVaultModel", "greatest", "J", false)
def tyX13 : Nat → FieldType := fun k => match k with
  | 0 => .int
  | 1 => .array (.object "GridVaultModel$Grid")
  | 2 => .array (.object "GridVaultModel$Grid")
  | 3 => .array .int
  | 4 => .array .int
  | 5 => .object "GridVaultModel$Grid"
  | 6 => .int
  | 7 => .int
  | 8 => .int
  | 9 => .int
  | 10 => .int
  | 11 => .long
  | 12 => .long
  | _ => .long
theorem nmX13 : ∀ a, a < 14 → ∀ b, b < 14 → a ≠ b → (TX13 a).2.1 ≠ (TX13 b).2.1 := by decide +kernel
theorem tyX13_ok : ∀ k, k < 14 → parseFieldDescriptor (TX13 k).2.2.1 = some (tyX13 k) := by decide +kernel
abbrev cX13_init : ByteArray := prog_14_method_1_code
def yX13_init : MethodName := ⟨RX13, "<init>", "()V"⟩
abbrev cX13_thrown : ByteArray := prog_14_method_2_code
def yX13_thrown : MethodName := ⟨RX13, "thrown", "()I"⟩
abbrev cX13_fails : ByteArray := prog_14_method_3_code
def yX13_fails : MethodName := ⟨RX13, "fails", "(ZI)Z"⟩
abbrev cX13_good : ByteArray := prog_14_method_4_code
def yX13_good : MethodName := ⟨RX13, "good", "(II)Z"⟩
abbrev cX13_begin : ByteArray := prog_14_method_5_code
def yX13_begin : MethodName := ⟨RX13, "begin", "(IIIIIII)V"⟩
abbrev cX13_start : ByteArray := prog_14_method_6_code
def yX13_start : MethodName := ⟨RX13, "start", "(IIIIIII)V"⟩
abbrev cX13_copied : ByteArray := prog_14_method_7_code
def yX13_copied : MethodName := ⟨RX13, "copied", "(LGridVaultModel$Grid;)LGridVaultModel$Grid;"⟩
abbrev cX13_here : ByteArray := prog_14_method_8_code
def yX13_here : MethodName := ⟨RX13, "here", "(III)Z"⟩
abbrev cX13_atDesk : ByteArray := prog_14_method_9_code
def yX13_atDesk : MethodName := ⟨RX13, "atDesk", "(III)I"⟩
abbrev cX13_put : ByteArray := prog_14_method_10_code
def yX13_put : MethodName := ⟨RX13, "put", "(IIIJ)V"⟩
abbrev cX13_erase : ByteArray := prog_14_method_11_code
def yX13_erase : MethodName := ⟨RX13, "erase", "(III)V"⟩
abbrev cX13_pick : ByteArray := prog_14_method_12_code
def yX13_pick : MethodName := ⟨RX13, "pick", "(IIII)I"⟩
abbrev cX13_fill : ByteArray := prog_14_method_13_code
def yX13_fill : MethodName := ⟨RX13, "fill", "(IIIJ)V"⟩
abbrev cX13_commit : ByteArray := prog_14_method_14_code
def yX13_commit : MethodName := ⟨RX13, "commit", "()I"⟩
abbrev cX13_noVersion : ByteArray := prog_14_method_15_code
def yX13_noVersion : MethodName := ⟨RX13, "noVersion", "(I)Z"⟩
abbrev cX13_open : ByteArray := prog_14_method_16_code
def yX13_open : MethodName := ⟨RX13, "open", "(I)V"⟩
abbrev cX13_same : ByteArray := prog_14_method_17_code
def yX13_same : MethodName := ⟨RX13, "same", "(LGridVaultModel$Grid;LGridVaultModel$Grid;I)Z"⟩
abbrev cX13_differing : ByteArray := prog_14_method_18_code
def yX13_differing : MethodName := ⟨RX13, "differing", "(LGridVaultModel$Grid;LGridVaultModel$Grid;)I"⟩
abbrev cX13_differ : ByteArray := prog_14_method_19_code
def yX13_differ : MethodName := ⟨RX13, "differ", "(II)I"⟩
abbrev cX13_version : ByteArray := prog_14_method_20_code
def yX13_version : MethodName := ⟨RX13, "version", "(II)I"⟩
abbrev cX13_end : ByteArray := prog_14_method_21_code
def yX13_end : MethodName := ⟨RX13, "end", "(LGridVaultModel$Grid;II)I"⟩
abbrev cX13_number : ByteArray := prog_14_method_22_code
def yX13_number : MethodName := ⟨RX13, "number", "(LGridVaultModel$Grid;III)I"⟩
abbrev cX13_changed : ByteArray := prog_14_method_23_code
def yX13_changed : MethodName := ⟨RX13, "changed", "(LGridVaultModel$Grid;LGridVaultModel$Grid;III)Z"⟩
abbrev cX13_octets : ByteArray := prog_14_method_24_code
def yX13_octets : MethodName := ⟨RX13, "octets", "(LGridVaultModel$Grid;III)I"⟩
abbrev cX13_none : ByteArray := prog_14_method_25_code
def yX13_none : MethodName := ⟨RX13, "none", "(I)Z"⟩
abbrev cX13_full : ByteArray := prog_14_method_26_code
def yX13_full : MethodName := ⟨RX13, "full", "()Z"⟩
abbrev cX13_like : ByteArray := prog_14_method_27_code
def yX13_like : MethodName := ⟨RX13, "like", "(LGridVaultModel$Grid;I)LGridVaultModel$Grid;"⟩
abbrev cX13_less : ByteArray := prog_14_method_28_code
def yX13_less : MethodName := ⟨RX13, "less", "(LGridVaultModel$Grid;I)LGridVaultModel$Grid;"⟩
abbrev cX13_large : ByteArray := prog_14_method_29_code
def yX13_large : MethodName := ⟨RX13, "large", "(LGridVaultModel$Grid;)Z"⟩
abbrev cX13_made : ByteArray := prog_14_method_30_code
def yX13_made : MethodName := ⟨RX13, "made", "(LGridVaultModel$Grid;)I"⟩
abbrev cX13_read : ByteArray := prog_14_method_31_code
def yX13_read : MethodName := ⟨RX13, "read", "(I)I"⟩
abbrev cX13_noDim : ByteArray := prog_14_method_32_code
def yX13_noDim : MethodName := ⟨RX13, "noDim", "(II)Z"⟩
abbrev cX13_from : ByteArray := prog_14_method_33_code
def yX13_from : MethodName := ⟨RX13, "from", "(LGridVaultModel$Grid;ILGridVaultModel$Grid;III)V"⟩
abbrev cX13_sub : ByteArray := prog_14_method_34_code
def yX13_sub : MethodName := ⟨RX13, "sub", "(IIII)I"⟩
abbrev cX13_extend : ByteArray := prog_14_method_35_code
def yX13_extend : MethodName := ⟨RX13, "extend", "(IIII)I"⟩
abbrev cX13_ranged : ByteArray := prog_14_method_36_code
def yX13_ranged : MethodName := ⟨RX13, "ranged", "(IIII)I"⟩
abbrev cX13_wider : ByteArray := prog_14_method_37_code
def yX13_wider : MethodName := ⟨RX13, "wider", "(IIII)V"⟩
abbrev cX13_slice : ByteArray := prog_14_method_38_code
def yX13_slice : MethodName := ⟨RX13, "slice", "(III)I"⟩
abbrev cX13_apply : ByteArray := prog_14_method_39_code
def yX13_apply : MethodName := ⟨RX13, "apply", "(IIJ)I"⟩
abbrev cX13_filter : ByteArray := prog_14_method_40_code
def yX13_filter : MethodName := ⟨RX13, "filter", "(IIJ)I"⟩
abbrev cX13_join : ByteArray := prog_14_method_41_code
def yX13_join : MethodName := ⟨RX13, "join", "(III)I"⟩
abbrev cX13_swap : ByteArray := prog_14_method_42_code
def yX13_swap : MethodName := ⟨RX13, "swap", "(III)I"⟩
abbrev cX13_product : ByteArray := prog_14_method_43_code
def yX13_product : MethodName := ⟨RX13, "product", "(II)I"⟩
abbrev cX13_nothing : ByteArray := prog_14_method_44_code
def yX13_nothing : MethodName := ⟨RX13, "nothing", "()V"⟩
abbrev cX13_take : ByteArray := prog_14_method_45_code
def yX13_take : MethodName := ⟨RX13, "take", "(LGridVaultModel$Grid;III)V"⟩
abbrev cX13_together : ByteArray := prog_14_method_46_code
def yX13_together : MethodName := ⟨RX13, "together", "(I)J"⟩
abbrev cX13_give : ByteArray := prog_14_method_47_code
def yX13_give : MethodName := ⟨RX13, "give", "(LGridVaultModel$Grid;II)V"⟩
abbrev cX13_gather : ByteArray := prog_14_method_48_code
def yX13_gather : MethodName := ⟨RX13, "gather", "(III)I"⟩
abbrev cX13_regrid : ByteArray := prog_14_method_49_code
def yX13_regrid : MethodName := ⟨RX13, "regrid", "(IIII)I"⟩
abbrev cX13_parts : ByteArray := prog_14_method_50_code
def yX13_parts : MethodName := ⟨RX13, "parts", "(LGridVaultModel$Grid;LGridVaultModel$Grid;IIII)V"⟩
abbrev cX13_window : ByteArray := prog_14_method_51_code
def yX13_window : MethodName := ⟨RX13, "window", "(IIII)I"⟩
abbrev cX13_shape : ByteArray := prog_14_method_52_code
def yX13_shape : MethodName := ⟨RX13, "shape", "(II)I"⟩
abbrev cX13_cell : ByteArray := prog_14_method_53_code
def yX13_cell : MethodName := ⟨RX13, "cell", "(IIII)J"⟩
abbrev cX13_all : ByteArray := prog_14_method_54_code
def yX13_all : MethodName := ⟨RX13, "all", "(II)J"⟩
abbrev cX13_count : ByteArray := prog_14_method_55_code
def yX13_count : MethodName := ⟨RX13, "count", "(I)I"⟩
def RJx145de : String := "java/io/Serializable"
def TJx145de : u_T := fun k => match k with
  | _ => ("", "", "", false)
def tyJx145de : Nat → FieldType := fun k => match k with
  | _ => .int
theorem nmJx145de : ∀ a, a < 0 → ∀ b, b < 0 → a ≠ b → (TJx145de a).2.1 ≠ (TJx145de b).2.1 := by decide +kernel
theorem tyJx145de_ok : ∀ k, k < 0 → parseFieldDescriptor (TJx145de k).2.2.1 = some (tyJx145de k) := by decide +kernel
def RJx8e188 : String := "java/lang/Cloneable"
def TJx8e188 : u_T := fun k => match k with
  | _ => ("", "", "", false)
def tyJx8e188 : Nat → FieldType := fun k => match k with
  | _ => .int
theorem nmJx8e188 : ∀ a, a < 0 → ∀ b, b < 0 → a ≠ b → (TJx8e188 a).2.1 ≠ (TJx8e188 b).2.1 := by decide +kernel
theorem tyJx8e188_ok : ∀ k, k < 0 → parseFieldDescriptor (TJx8e188 k).2.2.1 = some (tyJx8e188 k) := by decide +kernel
def RJxab1ab : String := "java/lang/Iterable"
def TJxab1ab : u_T := fun k => match k with
  | _ => ("", "", "", false)
def tyJxab1ab : Nat → FieldType := fun k => match k with
  | _ => .int
theorem nmJxab1ab : ∀ a, a < 0 → ∀ b, b < 0 → a ≠ b → (TJxab1ab a).2.1 ≠ (TJxab1ab b).2.1 := by decide +kernel
theorem tyJxab1ab_ok : ∀ k, k < 0 → parseFieldDescriptor (TJxab1ab k).2.2.1 = some (tyJxab1ab k) := by decide +kernel
def RJ13 : String := "java/lang/Long"
def TJ13 : u_T := fun k => match k with
  | _ => ("", "", "", false)
def tyJ13 : Nat → FieldType := fun k => match k with
  | _ => .int
theorem nmJ13 : ∀ a, a < 0 → ∀ b, b < 0 → a ≠ b → (TJ13 a).2.1 ≠ (TJ13 b).2.1 := by decide +kernel
theorem tyJ13_ok : ∀ k, k < 0 → parseFieldDescriptor (TJ13 k).2.2.1 = some (tyJ13 k) := by decide +kernel
abbrev cJ13_bitCount_95d88 : ByteArray := prog_23_method_50_code
def yJ13_bitCount_95d88 : MethodName := ⟨RJ13, "bitCount", "(J)I"⟩
def RJ9 : String := "java/lang/Math"
def TJ9 : u_T := fun k => match k with
  | _ => ("", "", "", false)
def tyJ9 : Nat → FieldType := fun k => match k with
  | _ => .int
theorem nmJ9 : ∀ a, a < 0 → ∀ b, b < 0 → a ≠ b → (TJ9 a).2.1 ≠ (TJ9 b).2.1 := by decide +kernel
theorem tyJ9_ok : ∀ k, k < 0 → parseFieldDescriptor (TJ9 k).2.2.1 = some (tyJ9 k) := by decide +kernel
abbrev cJ9_floorDiv_7cf53 : ByteArray := prog_24_method_47_code
def yJ9_floorDiv_7cf53 : MethodName := ⟨RJ9, "floorDiv", "(II)I"⟩
abbrev cJ9_max_7cf53 : ByteArray := prog_24_method_65_code
def yJ9_max_7cf53 : MethodName := ⟨RJ9, "max", "(II)I"⟩
abbrev cJ9_max_f86c9 : ByteArray := prog_24_method_66_code
def yJ9_max_f86c9 : MethodName := ⟨RJ9, "max", "(JJ)J"⟩
abbrev cJ9_min_7cf53 : ByteArray := prog_24_method_69_code
def yJ9_min_7cf53 : MethodName := ⟨RJ9, "min", "(II)I"⟩
abbrev cJ9_min_f86c9 : ByteArray := prog_24_method_70_code
def yJ9_min_f86c9 : MethodName := ⟨RJ9, "min", "(JJ)J"⟩
def RJ0 : String := "java/lang/String"
def TJ0 : u_T := fun k => match k with
  | _ => ("", "", "", false)
def tyJ0 : Nat → FieldType := fun k => match k with
  | _ => .int
theorem nmJ0 : ∀ a, a < 0 → ∀ b, b < 0 → a ≠ b → (TJ0 a).2.1 ≠ (TJ0 b).2.1 := by decide +kernel
theorem tyJ0_ok : ∀ k, k < 0 → parseFieldDescriptor (TJ0 k).2.2.1 = some (tyJ0 k) := by decide +kernel
def RJ10 : String := "java/lang/System"
def TJ10 : u_T := fun k => match k with
  | _ => ("", "", "", false)
def tyJ10 : Nat → FieldType := fun k => match k with
  | _ => .int
theorem nmJ10 : ∀ a, a < 0 → ∀ b, b < 0 → a ≠ b → (TJ10 a).2.1 ≠ (TJ10 b).2.1 := by decide +kernel
theorem tyJ10_ok : ∀ k, k < 0 → parseFieldDescriptor (TJ10 k).2.2.1 = some (tyJ10 k) := by decide +kernel
def RJxa1e45 : String := "java/util/AbstractCollection"
def TJxa1e45 : u_T := fun k => match k with
  | _ => ("", "", "", false)
def tyJxa1e45 : Nat → FieldType := fun k => match k with
  | _ => .int
theorem nmJxa1e45 : ∀ a, a < 0 → ∀ b, b < 0 → a ≠ b → (TJxa1e45 a).2.1 ≠ (TJxa1e45 b).2.1 := by decide +kernel
theorem tyJxa1e45_ok : ∀ k, k < 0 → parseFieldDescriptor (TJxa1e45 k).2.2.1 = some (tyJxa1e45 k) := by decide +kernel
abbrev cJxa1e45_init_da8c8 : ByteArray := prog_30_method_1_code
def yJxa1e45_init_da8c8 : MethodName := ⟨RJxa1e45, "<init>", "()V"⟩
def RJxc12de : String := "java/util/AbstractList"
def TJxc12de : u_T := fun k => match k with
  | _ => ("", "", "", false)
def tyJxc12de : Nat → FieldType := fun k => match k with
  | _ => .int
theorem nmJxc12de : ∀ a, a < 0 → ∀ b, b < 0 → a ≠ b → (TJxc12de a).2.1 ≠ (TJxc12de b).2.1 := by decide +kernel
theorem tyJxc12de_ok : ∀ k, k < 0 → parseFieldDescriptor (TJxc12de k).2.2.1 = some (tyJxc12de k) := by decide +kernel
abbrev cJxc12de_init_da8c8 : ByteArray := prog_31_method_1_code
def yJxc12de_init_da8c8 : MethodName := ⟨RJxc12de, "<init>", "()V"⟩
def RJx4a65c : String := "java/util/ArrayList"
def TJx4a65c : u_T := fun k => match k with
  | 0 => ("java/util/AbstractList", "modCount", "I", false)
  | 1 => ("java/util/ArrayList", "elementData", "[Ljava/lang/Object;", false)
  | _ => ("java/util/ArrayList", "size", "I", false)
def tyJx4a65c : Nat → FieldType := fun k => match k with
  | 0 => .int
  | 1 => .array (.object "java/lang/Object")
  | _ => .int
theorem nmJx4a65c : ∀ a, a < 3 → ∀ b, b < 3 → a ≠ b → (TJx4a65c a).2.1 ≠ (TJx4a65c b).2.1 := by decide +kernel
theorem tyJx4a65c_ok : ∀ k, k < 3 → parseFieldDescriptor (TJx4a65c k).2.2.1 = some (tyJx4a65c k) := by decide +kernel
abbrev cJx4a65c_init_da8c8 : ByteArray := prog_32_method_2_code
def yJx4a65c_init_da8c8 : MethodName := ⟨RJx4a65c, "<init>", "()V"⟩
abbrev cJx4a65c_grow_92f84 : ByteArray := prog_32_method_6_code
def yJx4a65c_grow_92f84 : MethodName := ⟨RJx4a65c, "grow", "(I)[Ljava/lang/Object;"⟩
abbrev cJx4a65c_grow_d5877 : ByteArray := prog_32_method_7_code
def yJx4a65c_grow_d5877 : MethodName := ⟨RJx4a65c, "grow", "()[Ljava/lang/Object;"⟩
abbrev cJx4a65c_size_8abf5 : ByteArray := prog_32_method_8_code
def yJx4a65c_size_8abf5 : MethodName := ⟨RJx4a65c, "size", "()I"⟩
abbrev cJx4a65c_elementData_915e3 : ByteArray := prog_32_method_18_code
def yJx4a65c_elementData_915e3 : MethodName := ⟨RJx4a65c, "elementData", "(I)Ljava/lang/Object;"⟩
abbrev cJx4a65c_get_915e3 : ByteArray := prog_32_method_20_code
def yJx4a65c_get_915e3 : MethodName := ⟨RJx4a65c, "get", "(I)Ljava/lang/Object;"⟩
abbrev cJx4a65c_add_72be8 : ByteArray := prog_32_method_24_code
def yJx4a65c_add_72be8 : MethodName := ⟨RJx4a65c, "add", "(Ljava/lang/Object;[Ljava/lang/Object;I)V"⟩
abbrev cJx4a65c_add_9ea2d : ByteArray := prog_32_method_25_code
def yJx4a65c_add_9ea2d : MethodName := ⟨RJx4a65c, "add", "(Ljava/lang/Object;)Z"⟩
abbrev cJx4a65c_clear_da8c8 : ByteArray := prog_32_method_40_code
def yJx4a65c_clear_da8c8 : MethodName := ⟨RJx4a65c, "clear", "()V"⟩
def RJ7 : String := "java/util/Arrays"
def TJ7 : u_T := fun k => match k with
  | _ => ("", "", "", false)
def tyJ7 : Nat → FieldType := fun k => match k with
  | _ => .int
theorem nmJ7 : ∀ a, a < 0 → ∀ b, b < 0 → a ≠ b → (TJ7 a).2.1 ≠ (TJ7 b).2.1 := by decide +kernel
theorem tyJ7_ok : ∀ k, k < 0 → parseFieldDescriptor (TJ7 k).2.2.1 = some (tyJ7 k) := by decide +kernel
abbrev cJ7_copyOf_1904c : ByteArray := prog_33_method_119_code
def yJ7_copyOf_1904c : MethodName := ⟨RJ7, "copyOf", "([Ljava/lang/Object;I)[Ljava/lang/Object;"⟩
abbrev cJ7_copyOf_6403c : ByteArray := prog_33_method_120_code
def yJ7_copyOf_6403c : MethodName := ⟨RJ7, "copyOf", "([Ljava/lang/Object;ILjava/lang/Class;)[Ljava/lang/Object;"⟩
def RJx5ef63 : String := "java/util/Collection"
def TJx5ef63 : u_T := fun k => match k with
  | _ => ("", "", "", false)
def tyJx5ef63 : Nat → FieldType := fun k => match k with
  | _ => .int
theorem nmJx5ef63 : ∀ a, a < 0 → ∀ b, b < 0 → a ≠ b → (TJx5ef63 a).2.1 ≠ (TJx5ef63 b).2.1 := by decide +kernel
theorem tyJx5ef63_ok : ∀ k, k < 0 → parseFieldDescriptor (TJx5ef63 k).2.2.1 = some (tyJx5ef63 k) := by decide +kernel
def RJxbd725 : String := "java/util/List"
def TJxbd725 : u_T := fun k => match k with
  | _ => ("", "", "", false)
def tyJxbd725 : Nat → FieldType := fun k => match k with
  | _ => .int
theorem nmJxbd725 : ∀ a, a < 0 → ∀ b, b < 0 → a ≠ b → (TJxbd725 a).2.1 ≠ (TJxbd725 b).2.1 := by decide +kernel
theorem tyJxbd725_ok : ∀ k, k < 0 → parseFieldDescriptor (TJxbd725 k).2.2.1 = some (tyJxbd725 k) := by decide +kernel
def RJ15 : String := "java/util/Objects"
def TJ15 : u_T := fun k => match k with
  | _ => ("", "", "", false)
def tyJ15 : Nat → FieldType := fun k => match k with
  | _ => .int
theorem nmJ15 : ∀ a, a < 0 → ∀ b, b < 0 → a ≠ b → (TJ15 a).2.1 ≠ (TJ15 b).2.1 := by decide +kernel
theorem tyJ15_ok : ∀ k, k < 0 → parseFieldDescriptor (TJ15 k).2.2.1 = some (tyJ15 k) := by decide +kernel
abbrev cJ15_checkIndex_7cf53 : ByteArray := prog_36_method_17_code
def yJ15_checkIndex_7cf53 : MethodName := ⟨RJ15, "checkIndex", "(II)I"⟩
def RJxf0a74 : String := "java/util/RandomAccess"
def TJxf0a74 : u_T := fun k => match k with
  | _ => ("", "", "", false)
def tyJxf0a74 : Nat → FieldType := fun k => match k with
  | _ => .int
theorem nmJxf0a74 : ∀ a, a < 0 → ∀ b, b < 0 → a ≠ b → (TJxf0a74 a).2.1 ≠ (TJxf0a74 b).2.1 := by decide +kernel
theorem tyJxf0a74_ok : ∀ k, k < 0 → parseFieldDescriptor (TJxf0a74 k).2.2.1 = some (tyJxf0a74 k) := by decide +kernel
def RJxa66e6 : String := "java/util/SequencedCollection"
def TJxa66e6 : u_T := fun k => match k with
  | _ => ("", "", "", false)
def tyJxa66e6 : Nat → FieldType := fun k => match k with
  | _ => .int
theorem nmJxa66e6 : ∀ a, a < 0 → ∀ b, b < 0 → a ≠ b → (TJxa66e6 a).2.1 ≠ (TJxa66e6 b).2.1 := by decide +kernel
theorem tyJxa66e6_ok : ∀ k, k < 0 → parseFieldDescriptor (TJxa66e6 k).2.2.1 = some (tyJxa66e6 k) := by decide +kernel
def RJ8 : String := "jdk/internal/util/ArraysSupport"
def TJ8 : u_T := fun k => match k with
  | _ => ("", "", "", false)
def tyJ8 : Nat → FieldType := fun k => match k with
  | _ => .int
theorem nmJ8 : ∀ a, a < 0 → ∀ b, b < 0 → a ≠ b → (TJ8 a).2.1 ≠ (TJ8 b).2.1 := by decide +kernel
theorem tyJ8_ok : ∀ k, k < 0 → parseFieldDescriptor (TJ8 k).2.2.1 = some (tyJ8 k) := by decide +kernel
abbrev cJ8_newLength_cabcc : ByteArray := prog_39_method_27_code
def yJ8_newLength_cabcc : MethodName := ⟨RJ8, "newLength", "(III)I"⟩
abbrev cJ8_hugeLength_7cf53 : ByteArray := prog_39_method_28_code
def yJ8_hugeLength_7cf53 : MethodName := ⟨RJ8, "hugeLength", "(II)I"⟩
def RJ3 : String := "jdk/internal/util/Preconditions"
def TJ3 : u_T := fun k => match k with
  | _ => ("", "", "", false)
def tyJ3 : Nat → FieldType := fun k => match k with
  | _ => .int
theorem nmJ3 : ∀ a, a < 0 → ∀ b, b < 0 → a ≠ b → (TJ3 a).2.1 ≠ (TJ3 b).2.1 := by decide +kernel
theorem tyJ3_ok : ∀ k, k < 0 → parseFieldDescriptor (TJ3 k).2.2.1 = some (tyJ3 k) := by decide +kernel
abbrev cJ3_checkIndex_8e157 : ByteArray := prog_40_method_11_code
def yJ3_checkIndex_8e157 : MethodName := ⟨RJ3, "checkIndex", "(IILjava/util/function/BiFunction;)I"⟩
def RL : String := "GridVaultLaw"
abbrev cL_begin : ByteArray := method_3_code
def yL_begin : MethodName := ⟨RL, "begin", "(LGridVault;IIIIIII)I"⟩
abbrev cL_put : ByteArray := method_4_code
def yL_put : MethodName := ⟨RL, "put", "(LGridVault;IIIJ)I"⟩
abbrev cL_erase : ByteArray := method_5_code
def yL_erase : MethodName := ⟨RL, "erase", "(LGridVault;III)I"⟩
abbrev cL_fill : ByteArray := method_6_code
def yL_fill : MethodName := ⟨RL, "fill", "(LGridVault;IIIJ)I"⟩
abbrev cL_commit : ByteArray := method_7_code
def yL_commit : MethodName := ⟨RL, "commit", "(LGridVault;[J)I"⟩
abbrev cL_open : ByteArray := method_8_code
def yL_open : MethodName := ⟨RL, "open", "(LGridVault;I)I"⟩
abbrev cL_version : ByteArray := method_9_code
def yL_version : MethodName := ⟨RL, "version", "(LGridVault;II[J)I"⟩
abbrev cL_differ : ByteArray := method_10_code
def yL_differ : MethodName := ⟨RL, "differ", "(LGridVault;II[J)I"⟩
abbrev cL_read : ByteArray := method_11_code
def yL_read : MethodName := ⟨RL, "read", "(LGridVault;I[J)I"⟩
abbrev cL_sub : ByteArray := method_12_code
def yL_sub : MethodName := ⟨RL, "sub", "(LGridVault;IIII[J)I"⟩
abbrev cL_slice : ByteArray := method_13_code
def yL_slice : MethodName := ⟨RL, "slice", "(LGridVault;III[J)I"⟩
abbrev cL_extend : ByteArray := method_14_code
def yL_extend : MethodName := ⟨RL, "extend", "(LGridVault;IIII[J)I"⟩
abbrev cL_apply : ByteArray := method_15_code
def yL_apply : MethodName := ⟨RL, "apply", "(LGridVault;IIJ[J)I"⟩
abbrev cL_filter : ByteArray := method_16_code
def yL_filter : MethodName := ⟨RL, "filter", "(LGridVault;IIJ[J)I"⟩
abbrev cL_join : ByteArray := method_17_code
def yL_join : MethodName := ⟨RL, "join", "(LGridVault;III[J)I"⟩
abbrev cL_gather : ByteArray := method_18_code
def yL_gather : MethodName := ⟨RL, "gather", "(LGridVault;III[J)I"⟩
abbrev cL_regrid : ByteArray := method_19_code
def yL_regrid : MethodName := ⟨RL, "regrid", "(LGridVault;IIII[J)I"⟩
abbrev cL_window : ByteArray := method_20_code
def yL_window : MethodName := ⟨RL, "window", "(LGridVault;IIII[J)I"⟩
abbrev cL_swap : ByteArray := method_21_code
def yL_swap : MethodName := ⟨RL, "swap", "(LGridVault;III[J)I"⟩
abbrev cL_product : ByteArray := method_22_code
def yL_product : MethodName := ⟨RL, "product", "(LGridVault;II[J)I"⟩
abbrev cL_shape : ByteArray := method_23_code
def yL_shape : MethodName := ⟨RL, "shape", "(LGridVault;II[J)I"⟩
abbrev cL_cell : ByteArray := method_24_code
def yL_cell : MethodName := ⟨RL, "cell", "(LGridVault;IIII[J)I"⟩
abbrev cL_all : ByteArray := method_25_code
def yL_all : MethodName := ⟨RL, "all", "(LGridVault;II[J)I"⟩
abbrev cL_count : ByteArray := method_26_code
def yL_count : MethodName := ⟨RL, "count", "(LGridVault;I[J)I"⟩
abbrev cL_law : ByteArray := code
def yL_law : MethodName := ⟨RL, "law", "([I)Z"⟩
abbrev vwCl : List vw_C := [(RJx4a65c, TJx4a65c, 3), (RX0, TX0, 2), (RX1, TX1, 1), (RX2, TX2, 7), (RX3, TX3, 9), (RX4, TX4, 7), (RX6, TX6, 6), (RX7, TX7, 6), (RX8, TX8, 3), (RX9, TX9, 7), (RX10, TX10, 7), (RX11, TX11, 7), (RX12, TX12, 6), (RX13, TX13, 14)]
