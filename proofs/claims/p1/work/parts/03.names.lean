/-! names: classes, fields, words, decode rows, out of the claim by program -/
def RX0 : String := "SpineTables$Assembler"
def RX1 : String := "SpineTables$BarCheck"
def RX2 : String := "SpineTables$Extractor"
def RX3 : String := "SpineTables$Fraction"
def RX4 : String := "SpineTables$Lengths"
def RX5 : String := "SpineTables$Reader"
def RX6 : String := "SpineTables$Rows"
def RX7 : String := "SpineTables$Side"
def RX8 : String := "SpineTables$Table"
def RX9 : String := "SpineTables$Walker"
def RX11 : String := "SpineTables"
def RX12 : String := "SpineTablesModel"
def RX10 : String := "SpineTables$Words"
def RL : String := "SpineTablesLaw"
def TX0 : u_T := fun k => match k with
  | 0 => ("SpineTables$Assembler", "left", "LSpineTables$Side;", true)
  | 1 => ("SpineTables$Assembler", "right", "LSpineTables$Side;", true)
  | _ => ("SpineTables$Assembler", "into", "LSpineTables$Rows;", false)
def tyX0 : Nat → FieldType := fun k => match k with
  | 0 => .object "SpineTables$Side"
  | 1 => .object "SpineTables$Side"
  | _ => .object "SpineTables$Rows"
theorem nmX0 : ∀ a, a < 3 → ∀ b, b < 3 → a ≠ b → (TX0 a).2.1 ≠ (TX0 b).2.1 := by decide +kernel
theorem tyX0_ok : ∀ k, k < 3 → parseFieldDescriptor (TX0 k).2.2.1 = some (tyX0 k) := by decide +kernel
def TX1 : u_T := fun k => match k with
  | 0 => ("SpineTables$BarCheck", "gap", "LSpineTables$Fraction;", true)
  | 1 => ("SpineTables$BarCheck", "meterAbove", "I", false)
  | 2 => ("SpineTables$BarCheck", "meterBelow", "I", false)
  | 3 => ("SpineTables$BarCheck", "dueAbove", "I", false)
  | _ => ("SpineTables$BarCheck", "dueBelow", "I", false)
def tyX1 : Nat → FieldType := fun k => match k with
  | 0 => .object "SpineTables$Fraction"
  | 1 => .int
  | 2 => .int
  | 3 => .int
  | _ => .int
theorem nmX1 : ∀ a, a < 5 → ∀ b, b < 5 → a ≠ b → (TX1 a).2.1 ≠ (TX1 b).2.1 := by decide +kernel
theorem tyX1_ok : ∀ k, k < 5 → parseFieldDescriptor (TX1 k).2.2.1 = some (tyX1 k) := by decide +kernel
def TX2 : u_T := fun k => match k with
  | _ => ("SpineTables$Extractor", "from", "[I", true)
def tyX2 : Nat → FieldType := fun k => match k with
  | _ => .array .int
theorem nmX2 : ∀ a, a < 1 → ∀ b, b < 1 → a ≠ b → (TX2 a).2.1 ≠ (TX2 b).2.1 := by decide +kernel
theorem tyX2_ok : ∀ k, k < 1 → parseFieldDescriptor (TX2 k).2.2.1 = some (tyX2 k) := by decide +kernel
def TX3 : u_T := fun k => match k with
  | 0 => ("SpineTables$Fraction", "above", "J", false)
  | _ => ("SpineTables$Fraction", "below", "J", false)
def tyX3 : Nat → FieldType := fun k => match k with
  | 0 => .long
  | _ => .long
theorem nmX3 : ∀ a, a < 2 → ∀ b, b < 2 → a ≠ b → (TX3 a).2.1 ≠ (TX3 b).2.1 := by decide +kernel
theorem tyX3_ok : ∀ k, k < 2 → parseFieldDescriptor (TX3 k).2.2.1 = some (tyX3 k) := by decide +kernel
def TX4 : u_T := fun k => match k with
  | 0 => ("SpineTables$Lengths", "above", "I", false)
  | 1 => ("SpineTables$Lengths", "below", "I", false)
  | 2 => ("SpineTables$Lengths", "value", "LSpineTables$Fraction;", true)
  | 3 => ("SpineTables$Lengths", "text", "[B", false)
  | 4 => ("SpineTables$Lengths", "at", "I", false)
  | _ => ("SpineTables$Lengths", "end", "I", false)
def tyX4 : Nat → FieldType := fun k => match k with
  | 0 => .int
  | 1 => .int
  | 2 => .object "SpineTables$Fraction"
  | 3 => .array .byte
  | 4 => .int
  | _ => .int
theorem nmX4 : ∀ a, a < 6 → ∀ b, b < 6 → a ≠ b → (TX4 a).2.1 ≠ (TX4 b).2.1 := by decide +kernel
theorem tyX4_ok : ∀ k, k < 6 → parseFieldDescriptor (TX4 k).2.2.1 = some (tyX4 k) := by decide +kernel
def TX5 : u_T := fun k => match k with
  | 0 => ("SpineTables$Reader", "code", "I", false)
  | 1 => ("SpineTables$Reader", "place", "I", false)
  | 2 => ("SpineTables$Reader", "text", "[B", false)
  | 3 => ("SpineTables$Reader", "size", "I", false)
  | 4 => ("SpineTables$Reader", "into", "LSpineTables$Table;", false)
  | 5 => ("SpineTables$Reader", "lineEnd", "I", false)
  | 6 => ("SpineTables$Reader", "sort", "I", false)
  | 7 => ("SpineTables$Reader", "tokens", "I", false)
  | 8 => ("SpineTables$Reader", "starts", "[I", true)
  | 9 => ("SpineTables$Reader", "ends", "[I", true)
  | 10 => ("SpineTables$Reader", "acts", "[I", true)
  | 11 => ("SpineTables$Reader", "firstJoin", "I", false)
  | 12 => ("SpineTables$Reader", "latestJoin", "I", false)
  | 13 => ("SpineTables$Reader", "swaps", "I", false)
  | 14 => ("SpineTables$Reader", "adds", "I", false)
  | _ => ("SpineTables$Reader", "grown", "I", false)
def tyX5 : Nat → FieldType := fun k => match k with
  | 0 => .int
  | 1 => .int
  | 2 => .array .byte
  | 3 => .int
  | 4 => .object "SpineTables$Table"
  | 5 => .int
  | 6 => .int
  | 7 => .int
  | 8 => .array .int
  | 9 => .array .int
  | 10 => .array .int
  | 11 => .int
  | 12 => .int
  | 13 => .int
  | 14 => .int
  | _ => .int
theorem nmX5 : ∀ a, a < 16 → ∀ b, b < 16 → a ≠ b → (TX5 a).2.1 ≠ (TX5 b).2.1 := by decide +kernel
theorem tyX5_ok : ∀ k, k < 16 → parseFieldDescriptor (TX5 k).2.2.1 = some (tyX5 k) := by decide +kernel
def TX6 : u_T := fun k => match k with
  | 0 => ("SpineTables$Rows", "text", "[B", true)
  | 1 => ("SpineTables$Rows", "starts", "[I", true)
  | 2 => ("SpineTables$Rows", "sorts", "[I", true)
  | 3 => ("SpineTables$Rows", "firsts", "[I", true)
  | 4 => ("SpineTables$Rows", "tokenStarts", "[I", true)
  | 5 => ("SpineTables$Rows", "tokenEnds", "[I", true)
  | 6 => ("SpineTables$Rows", "acts", "[I", true)
  | 7 => ("SpineTables$Rows", "size", "I", false)
  | 8 => ("SpineTables$Rows", "count", "I", false)
  | 9 => ("SpineTables$Rows", "tokens", "I", false)
  | _ => ("SpineTables$Rows", "overfull", "Z", false)
def tyX6 : Nat → FieldType := fun k => match k with
  | 0 => .array .byte
  | 1 => .array .int
  | 2 => .array .int
  | 3 => .array .int
  | 4 => .array .int
  | 5 => .array .int
  | 6 => .array .int
  | 7 => .int
  | 8 => .int
  | 9 => .int
  | _ => .boolean
theorem nmX6 : ∀ a, a < 11 → ∀ b, b < 11 → a ≠ b → (TX6 a).2.1 ≠ (TX6 b).2.1 := by decide +kernel
theorem tyX6_ok : ∀ k, k < 11 → parseFieldDescriptor (TX6 k).2.2.1 = some (tyX6 k) := by decide +kernel
def TX7 : u_T := fun k => match k with
  | 0 => ("SpineTables$Side", "table", "LSpineTables$Table;", false)
  | 1 => ("SpineTables$Side", "next", "I", false)
  | 2 => ("SpineTables$Side", "strands", "I", false)
  | 3 => ("SpineTables$Side", "isUrgent", "Z", false)
  | _ => ("SpineTables$Side", "from", "[I", true)
def tyX7 : Nat → FieldType := fun k => match k with
  | 0 => .object "SpineTables$Table"
  | 1 => .int
  | 2 => .int
  | 3 => .boolean
  | _ => .array .int
theorem nmX7 : ∀ a, a < 5 → ∀ b, b < 5 → a ≠ b → (TX7 a).2.1 ≠ (TX7 b).2.1 := by decide +kernel
theorem tyX7_ok : ∀ k, k < 5 → parseFieldDescriptor (TX7 k).2.2.1 = some (tyX7 k) := by decide +kernel
def TX8 : u_T := fun k => match k with
  | 0 => ("SpineTables$Table", "rows", "LSpineTables$Rows;", true)
  | 1 => ("SpineTables$Table", "tokenKinds", "[I", true)
  | 2 => ("SpineTables$Table", "tokenNumbers", "[I", true)
  | 3 => ("SpineTables$Table", "tokenHelds", "[I", true)
  | 4 => ("SpineTables$Table", "lengthsAbove", "[I", true)
  | 5 => ("SpineTables$Table", "lengthsBelow", "[I", true)
  | 6 => ("SpineTables$Table", "kindTokens", "[I", true)
  | 7 => ("SpineTables$Table", "kindRhythms", "[I", true)
  | 8 => ("SpineTables$Table", "kinds", "I", false)
  | 9 => ("SpineTables$Table", "numbers", "I", false)
  | 10 => ("SpineTables$Table", "latest", "I", false)
  | 11 => ("SpineTables$Table", "strands", "I", false)
  | 12 => ("SpineTables$Table", "sources", "[I", true)
  | 13 => ("SpineTables$Table", "timesAbove", "[I", true)
  | 14 => ("SpineTables$Table", "timesBelow", "[I", true)
  | 15 => ("SpineTables$Table", "misfitRow", "I", false)
  | _ => ("SpineTables$Table", "misfitCode", "I", false)
def tyX8 : Nat → FieldType := fun k => match k with
  | 0 => .object "SpineTables$Rows"
  | 1 => .array .int
  | 2 => .array .int
  | 3 => .array .int
  | 4 => .array .int
  | 5 => .array .int
  | 6 => .array .int
  | 7 => .array .int
  | 8 => .int
  | 9 => .int
  | 10 => .int
  | 11 => .int
  | 12 => .array .int
  | 13 => .array .int
  | 14 => .array .int
  | 15 => .int
  | _ => .int
theorem nmX8 : ∀ a, a < 17 → ∀ b, b < 17 → a ≠ b → (TX8 a).2.1 ≠ (TX8 b).2.1 := by decide +kernel
theorem tyX8_ok : ∀ k, k < 17 → parseFieldDescriptor (TX8 k).2.2.1 = some (tyX8 k) := by decide +kernel
def TX9 : u_T := fun k => match k with
  | 0 => ("SpineTables$Walker", "endAbove", "[I", true)
  | 1 => ("SpineTables$Walker", "endBelow", "[I", true)
  | 2 => ("SpineTables$Walker", "oldAbove", "[I", true)
  | 3 => ("SpineTables$Walker", "oldBelow", "[I", true)
  | 4 => ("SpineTables$Walker", "from", "[I", true)
  | 5 => ("SpineTables$Walker", "sum", "LSpineTables$Fraction;", true)
  | 6 => ("SpineTables$Walker", "table", "LSpineTables$Table;", false)
  | 7 => ("SpineTables$Walker", "nowAbove", "I", false)
  | _ => ("SpineTables$Walker", "nowBelow", "I", false)
def tyX9 : Nat → FieldType := fun k => match k with
  | 0 => .array .int
  | 1 => .array .int
  | 2 => .array .int
  | 3 => .array .int
  | 4 => .array .int
  | 5 => .object "SpineTables$Fraction"
  | 6 => .object "SpineTables$Table"
  | 7 => .int
  | _ => .int
theorem nmX9 : ∀ a, a < 9 → ∀ b, b < 9 → a ≠ b → (TX9 a).2.1 ≠ (TX9 b).2.1 := by decide +kernel
theorem tyX9_ok : ∀ k, k < 9 → parseFieldDescriptor (TX9 k).2.2.1 = some (tyX9 k) := by decide +kernel
def TX11 : u_T := fun k => match k with
  | 0 => ("SpineTables", "tape", "[B", true)
  | 1 => ("SpineTables", "tapeSize", "I", false)
  | 2 => ("SpineTables", "written", "[B", true)
  | 3 => ("SpineTables", "writtenSize", "I", false)
  | 4 => ("SpineTables", "faultCode", "I", false)
  | 5 => ("SpineTables", "tables", "[LSpineTables$Table;", true)
  | 6 => ("SpineTables", "taken", "[Z", true)
  | 7 => ("SpineTables", "bench", "LSpineTables$Table;", false)
  | 8 => ("SpineTables", "reader", "LSpineTables$Reader;", true)
  | 9 => ("SpineTables", "walker", "LSpineTables$Walker;", true)
  | 10 => ("SpineTables", "lengths", "LSpineTables$Lengths;", true)
  | 11 => ("SpineTables", "assembler", "LSpineTables$Assembler;", true)
  | 12 => ("SpineTables", "extractor", "LSpineTables$Extractor;", true)
  | _ => ("SpineTables", "barCheck", "LSpineTables$BarCheck;", true)
def tyX11 : Nat → FieldType := fun k => match k with
  | 0 => .array .byte
  | 1 => .int
  | 2 => .array .byte
  | 3 => .int
  | 4 => .int
  | 5 => .array (.object "SpineTables$Table")
  | 6 => .array .boolean
  | 7 => .object "SpineTables$Table"
  | 8 => .object "SpineTables$Reader"
  | 9 => .object "SpineTables$Walker"
  | 10 => .object "SpineTables$Lengths"
  | 11 => .object "SpineTables$Assembler"
  | 12 => .object "SpineTables$Extractor"
  | _ => .object "SpineTables$BarCheck"
theorem nmX11 : ∀ a, a < 14 → ∀ b, b < 14 → a ≠ b → (TX11 a).2.1 ≠ (TX11 b).2.1 := by decide +kernel
theorem tyX11_ok : ∀ k, k < 14 → parseFieldDescriptor (TX11 k).2.2.1 = some (tyX11 k) := by decide +kernel
def TX12 : u_T := fun k => match k with
  | 0 => ("SpineTablesModel", "thrown", "I", false)
  | 1 => ("SpineTablesModel", "tape", "[I", true)
  | 2 => ("SpineTablesModel", "size", "I", false)
  | 3 => ("SpineTablesModel", "fault", "I", false)
  | 4 => ("SpineTablesModel", "faultAt", "I", false)
  | 5 => ("SpineTablesModel", "told", "I", false)
  | 6 => ("SpineTablesModel", "out", "[I", true)
  | 7 => ("SpineTablesModel", "outSize", "I", false)
  | 8 => ("SpineTablesModel", "used", "[Z", true)
  | 9 => ("SpineTablesModel", "text", "[I", true)
  | 10 => ("SpineTablesModel", "sizes", "[I", true)
  | 11 => ("SpineTablesModel", "rows", "[I", true)
  | 12 => ("SpineTablesModel", "kinds", "[I", true)
  | 13 => ("SpineTablesModel", "names", "[J", true)
  | 14 => ("SpineTablesModel", "numbers", "[I", true)
  | 15 => ("SpineTablesModel", "kindOf", "[I", true)
  | 16 => ("SpineTablesModel", "makerKind", "[I", true)
  | 17 => ("SpineTablesModel", "sorts", "[I", true)
  | 18 => ("SpineTablesModel", "starts", "[I", true)
  | 19 => ("SpineTablesModel", "stops", "[I", true)
  | 20 => ("SpineTablesModel", "widths", "[I", true)
  | 21 => ("SpineTablesModel", "young", "[I", true)
  | 22 => ("SpineTablesModel", "ups", "[J", true)
  | 23 => ("SpineTablesModel", "downs", "[J", true)
  | 24 => ("SpineTablesModel", "tokenAt", "[I", true)
  | 25 => ("SpineTablesModel", "tokenEnd", "[I", true)
  | 26 => ("SpineTablesModel", "strand", "[I", true)
  | 27 => ("SpineTablesModel", "held", "[I", true)
  | 28 => ("SpineTablesModel", "misfits", "[I", true)
  | 29 => ("SpineTablesModel", "misfitRows", "[I", true)
  | 30 => ("SpineTablesModel", "now", "I", false)
  | 31 => ("SpineTablesModel", "nowStrand", "[I", true)
  | 32 => ("SpineTablesModel", "nowHeld", "[I", true)
  | 33 => ("SpineTablesModel", "nowUp", "[J", true)
  | 34 => ("SpineTablesModel", "nowDown", "[J", true)
  | 35 => ("SpineTablesModel", "then", "I", false)
  | 36 => ("SpineTablesModel", "thenStrand", "[I", true)
  | 37 => ("SpineTablesModel", "thenHeld", "[I", true)
  | 38 => ("SpineTablesModel", "thenUp", "[J", true)
  | 39 => ("SpineTablesModel", "thenDown", "[J", true)
  | 40 => ("SpineTablesModel", "lengthUp", "J", false)
  | 41 => ("SpineTablesModel", "lengthDown", "J", false)
  | 42 => ("SpineTablesModel", "stop", "I", false)
  | 43 => ("SpineTablesModel", "made", "[I", true)
  | 44 => ("SpineTablesModel", "madeSize", "I", false)
  | _ => ("SpineTablesModel", "madeTokens", "I", false)
def tyX12 : Nat → FieldType := fun k => match k with
  | 0 => .int
  | 1 => .array .int
  | 2 => .int
  | 3 => .int
  | 4 => .int
  | 5 => .int
  | 6 => .array .int
  | 7 => .int
  | 8 => .array .boolean
  | 9 => .array .int
  | 10 => .array .int
  | 11 => .array .int
  | 12 => .array .int
  | 13 => .array .long
  | 14 => .array .int
  | 15 => .array .int
  | 16 => .array .int
  | 17 => .array .int
  | 18 => .array .int
  | 19 => .array .int
  | 20 => .array .int
  | 21 => .array .int
  | 22 => .array .long
  | 23 => .array .long
  | 24 => .array .int
  | 25 => .array .int
  | 26 => .array .int
  | 27 => .array .int
  | 28 => .array .int
  | 29 => .array .int
  | 30 => .int
  | 31 => .array .int
  | 32 => .array .int
  | 33 => .array .long
  | 34 => .array .long
  | 35 => .int
  | 36 => .array .int
  | 37 => .array .int
  | 38 => .array .long
  | 39 => .array .long
  | 40 => .long
  | 41 => .long
  | 42 => .int
  | 43 => .array .int
  | 44 => .int
  | _ => .int
theorem nmX12 : ∀ a, a < 46 → ∀ b, b < 46 → a ≠ b → (TX12 a).2.1 ≠ (TX12 b).2.1 := by decide +kernel
theorem tyX12_ok : ∀ k, k < 46 → parseFieldDescriptor (TX12 k).2.2.1 = some (tyX12 k) := by decide +kernel
abbrev classes : List vw_C := [(RX0, TX0, 3), (RX1, TX1, 5), (RX2, TX2, 1), (RX3, TX3, 2), (RX4, TX4, 6), (RX5, TX5, 16), (RX6, TX6, 11), (RX7, TX7, 5), (RX8, TX8, 17), (RX9, TX9, 9), (RX11, TX11, 14), (RX12, TX12, 46)]
theorem dfX0 : ∀ j, j < 3 → defaultValue (tyX0 j) = vp_V [.null, .null, .null] j := fun j hj => by rcases (show j = 0 ∨ j = 1 ∨ j = 2 by omega) with rfl | rfl | rfl <;> rfl
theorem dfX1 : ∀ j, j < 5 → defaultValue (tyX1 j) = vp_V [.null, .int 0, .int 0, .int 0, .int 0] j := fun j hj => by rcases (show j = 0 ∨ j = 1 ∨ j = 2 ∨ j = 3 ∨ j = 4 by omega) with rfl | rfl | rfl | rfl | rfl <;> rfl
theorem dfX2 : ∀ j, j < 1 → defaultValue (tyX2 j) = vp_V [.null] j := fun j hj => by rcases (show j = 0 by omega) with rfl <;> rfl
theorem dfX3 : ∀ j, j < 2 → defaultValue (tyX3 j) = vp_V [.long 0, .long 0] j := fun j hj => by rcases (show j = 0 ∨ j = 1 by omega) with rfl | rfl <;> rfl
theorem dfX4 : ∀ j, j < 6 → defaultValue (tyX4 j) = vp_V [.int 0, .int 0, .null, .null, .int 0, .int 0] j := fun j hj => by rcases (show j = 0 ∨ j = 1 ∨ j = 2 ∨ j = 3 ∨ j = 4 ∨ j = 5 by omega) with rfl | rfl | rfl | rfl | rfl | rfl <;> rfl
theorem dfX5 : ∀ j, j < 16 → defaultValue (tyX5 j) = vp_V [.int 0, .int 0, .null, .int 0, .null, .int 0, .int 0, .int 0, .null, .null, .null, .int 0, .int 0, .int 0, .int 0, .int 0] j := fun j hj => by rcases (show j = 0 ∨ j = 1 ∨ j = 2 ∨ j = 3 ∨ j = 4 ∨ j = 5 ∨ j = 6 ∨ j = 7 ∨ j = 8 ∨ j = 9 ∨ j = 10 ∨ j = 11 ∨ j = 12 ∨ j = 13 ∨ j = 14 ∨ j = 15 by omega) with rfl | rfl | rfl | rfl | rfl | rfl | rfl | rfl | rfl | rfl | rfl | rfl | rfl | rfl | rfl | rfl <;> rfl
theorem dfX6 : ∀ j, j < 11 → defaultValue (tyX6 j) = vp_V [.null, .null, .null, .null, .null, .null, .null, .int 0, .int 0, .int 0, .int 0] j := fun j hj => by rcases (show j = 0 ∨ j = 1 ∨ j = 2 ∨ j = 3 ∨ j = 4 ∨ j = 5 ∨ j = 6 ∨ j = 7 ∨ j = 8 ∨ j = 9 ∨ j = 10 by omega) with rfl | rfl | rfl | rfl | rfl | rfl | rfl | rfl | rfl | rfl | rfl <;> rfl
theorem dfX7 : ∀ j, j < 5 → defaultValue (tyX7 j) = vp_V [.null, .int 0, .int 0, .int 0, .null] j := fun j hj => by rcases (show j = 0 ∨ j = 1 ∨ j = 2 ∨ j = 3 ∨ j = 4 by omega) with rfl | rfl | rfl | rfl | rfl <;> rfl
theorem dfX8 : ∀ j, j < 17 → defaultValue (tyX8 j) = vp_V [.null, .null, .null, .null, .null, .null, .null, .null, .int 0, .int 0, .int 0, .int 0, .null, .null, .null, .int 0, .int 0] j := fun j hj => by rcases (show j = 0 ∨ j = 1 ∨ j = 2 ∨ j = 3 ∨ j = 4 ∨ j = 5 ∨ j = 6 ∨ j = 7 ∨ j = 8 ∨ j = 9 ∨ j = 10 ∨ j = 11 ∨ j = 12 ∨ j = 13 ∨ j = 14 ∨ j = 15 ∨ j = 16 by omega) with rfl | rfl | rfl | rfl | rfl | rfl | rfl | rfl | rfl | rfl | rfl | rfl | rfl | rfl | rfl | rfl | rfl <;> rfl
theorem dfX9 : ∀ j, j < 9 → defaultValue (tyX9 j) = vp_V [.null, .null, .null, .null, .null, .null, .null, .int 0, .int 0] j := fun j hj => by rcases (show j = 0 ∨ j = 1 ∨ j = 2 ∨ j = 3 ∨ j = 4 ∨ j = 5 ∨ j = 6 ∨ j = 7 ∨ j = 8 by omega) with rfl | rfl | rfl | rfl | rfl | rfl | rfl | rfl | rfl <;> rfl
theorem dfX11 : ∀ j, j < 14 → defaultValue (tyX11 j) = vp_V [.null, .int 0, .null, .int 0, .int 0, .null, .null, .null, .null, .null, .null, .null, .null, .null] j := fun j hj => by rcases (show j = 0 ∨ j = 1 ∨ j = 2 ∨ j = 3 ∨ j = 4 ∨ j = 5 ∨ j = 6 ∨ j = 7 ∨ j = 8 ∨ j = 9 ∨ j = 10 ∨ j = 11 ∨ j = 12 ∨ j = 13 by omega) with rfl | rfl | rfl | rfl | rfl | rfl | rfl | rfl | rfl | rfl | rfl | rfl | rfl | rfl <;> rfl
theorem dfX12 : ∀ j, j < 46 → defaultValue (tyX12 j) = vp_V [.int 0, .null, .int 0, .int 0, .int 0, .int 0, .null, .int 0, .null, .null, .null, .null, .null, .null, .null, .null, .null, .null, .null, .null, .null, .null, .null, .null, .null, .null, .null, .null, .null, .null, .int 0, .null, .null, .null, .null, .int 0, .null, .null, .null, .null, .long 0, .long 0, .int 0, .null, .int 0, .int 0] j := fun j hj => by rcases (show j = 0 ∨ j = 1 ∨ j = 2 ∨ j = 3 ∨ j = 4 ∨ j = 5 ∨ j = 6 ∨ j = 7 ∨ j = 8 ∨ j = 9 ∨ j = 10 ∨ j = 11 ∨ j = 12 ∨ j = 13 ∨ j = 14 ∨ j = 15 ∨ j = 16 ∨ j = 17 ∨ j = 18 ∨ j = 19 ∨ j = 20 ∨ j = 21 ∨ j = 22 ∨ j = 23 ∨ j = 24 ∨ j = 25 ∨ j = 26 ∨ j = 27 ∨ j = 28 ∨ j = 29 ∨ j = 30 ∨ j = 31 ∨ j = 32 ∨ j = 33 ∨ j = 34 ∨ j = 35 ∨ j = 36 ∨ j = 37 ∨ j = 38 ∨ j = 39 ∨ j = 40 ∨ j = 41 ∨ j = 42 ∨ j = 43 ∨ j = 44 ∨ j = 45 by omega) with rfl | rfl | rfl | rfl | rfl | rfl | rfl | rfl | rfl | rfl | rfl | rfl | rfl | rfl | rfl | rfl | rfl | rfl | rfl | rfl | rfl | rfl | rfl | rfl | rfl | rfl | rfl | rfl | rfl | rfl | rfl | rfl | rfl | rfl | rfl | rfl | rfl | rfl | rfl | rfl | rfl | rfl | rfl | rfl | rfl | rfl <;> rfl
abbrev cL_assemble : ByteArray := method_15_code
def yL_assemble : MethodName := ⟨RL, "assemble", "(LSpineTables;II[J)I"⟩
abbrev cL_bars : ByteArray := method_13_code
def yL_bars : MethodName := ⟨RL, "bars", "(LSpineTables;I[J)I"⟩
abbrev cL_drop : ByteArray := method_3_code
def yL_drop : MethodName := ⟨RL, "drop", "(LSpineTables;I[J)I"⟩
abbrev cL_extract : ByteArray := method_14_code
def yL_extract : MethodName := ⟨RL, "extract", "(LSpineTables;I[J)I"⟩
abbrev cL_kind : ByteArray := method_7_code
def yL_kind : MethodName := ⟨RL, "kind", "(LSpineTables;III[J)I"⟩
abbrev cL_length : ByteArray := method_12_code
def yL_length : MethodName := ⟨RL, "length", "(LSpineTables;IIII[J)I"⟩
abbrev cL_misfit : ByteArray := method_10_code
def yL_misfit : MethodName := ⟨RL, "misfit", "(LSpineTables;I[J)I"⟩
abbrev cL_row : ByteArray := method_5_code
def yL_row : MethodName := ⟨RL, "row", "(LSpineTables;III[J)I"⟩
abbrev cL_same : ByteArray := method_16_code
def yL_same : MethodName := ⟨RL, "same", "(LSpineTables;II[J)I"⟩
abbrev cL_strand : ByteArray := method_6_code
def yL_strand : MethodName := ⟨RL, "strand", "(LSpineTables;IIII[J)I"⟩
abbrev cL_time : ByteArray := method_11_code
def yL_time : MethodName := ⟨RL, "time", "(LSpineTables;III[J)I"⟩
abbrev cL_token : ByteArray := method_8_code
def yL_token : MethodName := ⟨RL, "token", "(LSpineTables;IIII[J)I"⟩
abbrev cL_told : ByteArray := method_4_code
def yL_told : MethodName := ⟨RL, "told", "(LSpineTables;II[J)I"⟩
abbrev cL_walk : ByteArray := method_9_code
def yL_walk : MethodName := ⟨RL, "walk", "(LSpineTables;I[J)I"⟩
abbrev cL_write : ByteArray := method_17_code
def yL_write : MethodName := ⟨RL, "write", "(LSpineTables;I[J)I"⟩
abbrev cX0_init : ByteArray := prog_2_method_1_code
def yX0_init : MethodName := ⟨RX0, "<init>", "()V"⟩
abbrev cX10_isRun : ByteArray := prog_12_method_5_code
def yX10_isRun : MethodName := ⟨RX10, "isRun", "([BII)Z"⟩
abbrev cX11_assemble : ByteArray := prog_1_method_18_code
def yX11_assemble : MethodName := ⟨RX11, "assemble", "(II)I"⟩
abbrev cX11_bars : ByteArray := prog_1_method_16_code
def yX11_bars : MethodName := ⟨RX11, "bars", "(I)I"⟩
abbrev cX11_clearBench : ByteArray := prog_1_method_24_code
def yX11_clearBench : MethodName := ⟨RX11, "clearBench", "()LSpineTables$Table;"⟩
abbrev cX11_cut : ByteArray := prog_1_method_3_code
def yX11_cut : MethodName := ⟨RX11, "cut", "(I)I"⟩
abbrev cX11_drop : ByteArray := prog_1_method_6_code
def yX11_drop : MethodName := ⟨RX11, "drop", "(I)I"⟩
abbrev cX11_extract : ByteArray := prog_1_method_17_code
def yX11_extract : MethodName := ⟨RX11, "extract", "(I)I"⟩
abbrev cX11_fault : ByteArray := prog_1_method_5_code
def yX11_fault : MethodName := ⟨RX11, "fault", "()I"⟩
abbrev cX11_feed : ByteArray := prog_1_method_2_code
def yX11_feed : MethodName := ⟨RX11, "feed", "(IIIII)I"⟩
abbrev cX11_feedNumber : ByteArray := prog_1_method_22_code
def yX11_feedNumber : MethodName := ⟨RX11, "feedNumber", "(I)V"⟩
abbrev cX11_freePlace : ByteArray := prog_1_method_23_code
def yX11_freePlace : MethodName := ⟨RX11, "freePlace", "()I"⟩
abbrev cX11_init : ByteArray := prog_1_method_1_code
def yX11_init : MethodName := ⟨RX11, "<init>", "()V"⟩
abbrev cX11_keepBench : ByteArray := prog_1_method_25_code
def yX11_keepBench : MethodName := ⟨RX11, "keepBench", "(I)I"⟩
abbrev cX11_kind : ByteArray := prog_1_method_10_code
def yX11_kind : MethodName := ⟨RX11, "kind", "(III)I"⟩
abbrev cX11_length : ByteArray := prog_1_method_15_code
def yX11_length : MethodName := ⟨RX11, "length", "(IIII)I"⟩
abbrev cX11_misfit : ByteArray := prog_1_method_13_code
def yX11_misfit : MethodName := ⟨RX11, "misfit", "(I)I"⟩
abbrev cX11_out : ByteArray := prog_1_method_21_code
def yX11_out : MethodName := ⟨RX11, "out", "(I)I"⟩
abbrev cX11_read : ByteArray := prog_1_method_4_code
def yX11_read : MethodName := ⟨RX11, "read", "()I"⟩
abbrev cX11_row : ByteArray := prog_1_method_8_code
def yX11_row : MethodName := ⟨RX11, "row", "(III)I"⟩
abbrev cX11_same : ByteArray := prog_1_method_19_code
def yX11_same : MethodName := ⟨RX11, "same", "(II)Z"⟩
abbrev cX11_strand : ByteArray := prog_1_method_9_code
def yX11_strand : MethodName := ⟨RX11, "strand", "(IIII)I"⟩
abbrev cX11_tableAt : ByteArray := prog_1_method_26_code
def yX11_tableAt : MethodName := ⟨RX11, "tableAt", "(I)LSpineTables$Table;"⟩
abbrev cX11_time : ByteArray := prog_1_method_14_code
def yX11_time : MethodName := ⟨RX11, "time", "(III)I"⟩
abbrev cX11_token : ByteArray := prog_1_method_11_code
def yX11_token : MethodName := ⟨RX11, "token", "(IIII)I"⟩
abbrev cX11_told : ByteArray := prog_1_method_7_code
def yX11_told : MethodName := ⟨RX11, "told", "(II)I"⟩
abbrev cX11_walk : ByteArray := prog_1_method_12_code
def yX11_walk : MethodName := ⟨RX11, "walk", "(I)I"⟩
abbrev cX11_write : ByteArray := prog_1_method_20_code
def yX11_write : MethodName := ⟨RX11, "write", "(I)I"⟩
abbrev cX12_assemble : ByteArray := prog_14_method_74_code
def yX12_assemble : MethodName := ⟨RX12, "assemble", "(II)I"⟩
abbrev cX12_bars : ByteArray := prog_14_method_61_code
def yX12_bars : MethodName := ⟨RX12, "bars", "(I)I"⟩
abbrev cX12_cut : ByteArray := prog_14_method_46_code
def yX12_cut : MethodName := ⟨RX12, "cut", "(I)I"⟩
abbrev cX12_drop : ByteArray := prog_14_method_49_code
def yX12_drop : MethodName := ⟨RX12, "drop", "(I)I"⟩
abbrev cX12_extract : ByteArray := prog_14_method_68_code
def yX12_extract : MethodName := ⟨RX12, "extract", "(I)I"⟩
abbrev cX12_fault : ByteArray := prog_14_method_48_code
def yX12_fault : MethodName := ⟨RX12, "fault", "()I"⟩
abbrev cX12_feed : ByteArray := prog_14_method_45_code
def yX12_feed : MethodName := ⟨RX12, "feed", "(IIIII)I"⟩
abbrev cX12_free : ByteArray := prog_14_method_44_code
def yX12_free : MethodName := ⟨RX12, "free", "()I"⟩
abbrev cX12_goes : ByteArray := prog_14_method_3_code
def yX12_goes : MethodName := ⟨RX12, "goes", "(ZZZ)Z"⟩
abbrev cX12_init : ByteArray := prog_14_method_1_code
def yX12_init : MethodName := ⟨RX12, "<init>", "()V"⟩
abbrev cX12_isParsed : ByteArray := prog_14_method_17_code
def yX12_isParsed : MethodName := ⟨RX12, "isParsed", "(II)Z"⟩
abbrev cX12_isRow : ByteArray := prog_14_method_5_code
def yX12_isRow : MethodName := ⟨RX12, "isRow", "(II)Z"⟩
abbrev cX12_isStrand : ByteArray := prog_14_method_6_code
def yX12_isStrand : MethodName := ⟨RX12, "isStrand", "(III)Z"⟩
abbrev cX12_isTable : ByteArray := prog_14_method_4_code
def yX12_isTable : MethodName := ⟨RX12, "isTable", "(I)Z"⟩
abbrev cX12_kind : ByteArray := prog_14_method_54_code
def yX12_kind : MethodName := ⟨RX12, "kind", "(III)I"⟩
abbrev cX12_length : ByteArray := prog_14_method_59_code
def yX12_length : MethodName := ⟨RX12, "length", "(IIII)I"⟩
abbrev cX12_may : ByteArray := prog_14_method_7_code
def yX12_may : MethodName := ⟨RX12, "may", "(II)Z"⟩
abbrev cX12_misfit_ : ByteArray := prog_14_method_57_code
def yX12_misfit_ : MethodName := ⟨RX12, "misfit", "(I)I"⟩
abbrev cX12_out : ByteArray := prog_14_method_77_code
def yX12_out : MethodName := ⟨RX12, "out", "(I)I"⟩
abbrev cX12_read : ByteArray := prog_14_method_47_code
def yX12_read : MethodName := ⟨RX12, "read", "()I"⟩
abbrev cX12_row : ByteArray := prog_14_method_52_code
def yX12_row : MethodName := ⟨RX12, "row", "(III)I"⟩
abbrev cX12_same : ByteArray := prog_14_method_75_code
def yX12_same : MethodName := ⟨RX12, "same", "(II)Z"⟩
abbrev cX12_strand : ByteArray := prog_14_method_53_code
def yX12_strand : MethodName := ⟨RX12, "strand", "(IIII)I"⟩
abbrev cX12_thrown : ByteArray := prog_14_method_2_code
def yX12_thrown : MethodName := ⟨RX12, "thrown", "()I"⟩
abbrev cX12_time : ByteArray := prog_14_method_58_code
def yX12_time : MethodName := ⟨RX12, "time", "(III)I"⟩
abbrev cX12_token : ByteArray := prog_14_method_55_code
def yX12_token : MethodName := ⟨RX12, "token", "(IIII)I"⟩
abbrev cX12_told : ByteArray := prog_14_method_51_code
def yX12_told : MethodName := ⟨RX12, "told", "(II)I"⟩
abbrev cX12_walk : ByteArray := prog_14_method_56_code
def yX12_walk : MethodName := ⟨RX12, "walk", "(I)I"⟩
abbrev cX12_walkThrough : ByteArray := prog_14_method_41_code
def yX12_walkThrough : MethodName := ⟨RX12, "walkThrough", "(I)V"⟩
abbrev cX12_write : ByteArray := prog_14_method_76_code
def yX12_write : MethodName := ⟨RX12, "write", "(I)I"⟩
abbrev cX1_init : ByteArray := prog_3_method_1_code
def yX1_init : MethodName := ⟨RX1, "<init>", "()V"⟩
abbrev cX2_init : ByteArray := prog_4_method_1_code
def yX2_init : MethodName := ⟨RX2, "<init>", "()V"⟩
abbrev cX3_init : ByteArray := prog_5_method_1_code
def yX3_init : MethodName := ⟨RX3, "<init>", "()V"⟩
abbrev cX4_fill : ByteArray := prog_6_method_2_code
def yX4_fill : MethodName := ⟨RX4, "fill", "(LSpineTables$Table;)V"⟩
abbrev cX4_init : ByteArray := prog_6_method_1_code
def yX4_init : MethodName := ⟨RX4, "<init>", "()V"⟩
abbrev cX5_init : ByteArray := prog_7_method_1_code
def yX5_init : MethodName := ⟨RX5, "<init>", "()V"⟩
abbrev cX5_take : ByteArray := prog_7_method_2_code
def yX5_take : MethodName := ⟨RX5, "take", "([BILSpineTables$Table;)Z"⟩
abbrev cX6_clear : ByteArray := prog_8_method_2_code
def yX6_clear : MethodName := ⟨RX6, "clear", "()V"⟩
abbrev cX6_init : ByteArray := prog_8_method_1_code
def yX6_init : MethodName := ⟨RX6, "<init>", "()V"⟩
abbrev cX7_init : ByteArray := prog_9_method_1_code
def yX7_init : MethodName := ⟨RX7, "<init>", "()V"⟩
abbrev cX8_clear : ByteArray := prog_10_method_2_code
def yX8_clear : MethodName := ⟨RX8, "clear", "()V"⟩
abbrev cX8_init : ByteArray := prog_10_method_1_code
def yX8_init : MethodName := ⟨RX8, "<init>", "()V"⟩
abbrev cX8_putTime : ByteArray := prog_10_method_18_code
def yX8_putTime : MethodName := ⟨RX8, "putTime", "(III)V"⟩
abbrev cX9_begin : ByteArray := prog_11_method_3_code
def yX9_begin : MethodName := ⟨RX9, "begin", "(LSpineTables$Table;)V"⟩
abbrev cX9_go : ByteArray := prog_11_method_2_code
def yX9_go : MethodName := ⟨RX9, "go", "(LSpineTables$Table;)V"⟩
abbrev cX9_init : ByteArray := prog_11_method_1_code
def yX9_init : MethodName := ⟨RX9, "<init>", "()V"⟩
def nU : List Cond := [Cond.methodLinkNest "SpineTables$Walker" 29 ⟨"SpineTables$Fraction", "<init>", "()V"⟩ "SpineTables", Cond.methodLinkNest "SpineTables$Lengths" 20 ⟨"SpineTables$Fraction", "<init>", "()V"⟩ "SpineTables", Cond.methodLinkNest "SpineTables$Assembler" 11 ⟨"SpineTables$Side", "<init>", "()V"⟩ "SpineTables", Cond.methodLinkNest "SpineTables$BarCheck" 11 ⟨"SpineTables$Fraction", "<init>", "()V"⟩ "SpineTables", Cond.methodLinkNest "SpineTables$Table" 11 ⟨"SpineTables$Rows", "<init>", "()V"⟩ "SpineTables", Cond.methodLinkNest "SpineTables" 42 ⟨"SpineTables$Reader", "<init>", "()V"⟩ "SpineTables", Cond.methodLinkNest "SpineTables" 49 ⟨"SpineTables$Walker", "<init>", "()V"⟩ "SpineTables", Cond.methodLinkNest "SpineTables" 56 ⟨"SpineTables$Lengths", "<init>", "()V"⟩ "SpineTables", Cond.methodLinkNest "SpineTables" 63 ⟨"SpineTables$Assembler", "<init>", "()V"⟩ "SpineTables", Cond.methodLinkNest "SpineTables" 70 ⟨"SpineTables$Extractor", "<init>", "()V"⟩ "SpineTables", Cond.methodLinkNest "SpineTables" 77 ⟨"SpineTables$BarCheck", "<init>", "()V"⟩ "SpineTables", Cond.castable "java/lang/IndexOutOfBoundsException" "java/lang/IndexOutOfBoundsException", Cond.methodLinkNest "SpineTables" 270 ⟨"SpineTables$Table", "<init>", "()V"⟩ "SpineTables", Cond.declares ⟨"java/lang/RuntimeException", "<init>", "(Ljava/lang/String;)V"⟩, Cond.declares ⟨"java/lang/Exception", "<init>", "(Ljava/lang/String;)V"⟩, Cond.declares ⟨"java/lang/Throwable", "<init>", "(Ljava/lang/String;)V"⟩]
theorem nU_cast : Cond.castable "java/lang/IndexOutOfBoundsException" "java/lang/IndexOutOfBoundsException" ∈ nU := List.mem_of_getElem? (i := 11) rfl
theorem nU_d1 : Cond.declares ⟨"java/lang/RuntimeException", "<init>", "(Ljava/lang/String;)V"⟩ ∈ nU := List.mem_of_getElem? (i := 13) rfl
theorem nU_d2 : Cond.declares ⟨"java/lang/Exception", "<init>", "(Ljava/lang/String;)V"⟩ ∈ nU := List.mem_of_getElem? (i := 14) rfl
theorem nU_d3 : Cond.declares ⟨"java/lang/Throwable", "<init>", "(Ljava/lang/String;)V"⟩ ∈ nU := List.mem_of_getElem? (i := 15) rfl
