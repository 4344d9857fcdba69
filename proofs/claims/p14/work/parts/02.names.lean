def RJ0 : String := "java/lang/String"
def TJ0 : u_T := fun k => match k with
  | 0 => ("java/lang/String", "value", "[B", true)
  | _ => ("java/lang/String", "coder", "B", true)
def tyJ0 : Nat → FieldType := fun k => match k with
  | 0 => .array .byte
  | _ => .byte
theorem nmJ0 : ∀ a, a < 2 → ∀ b, b < 2 → a ≠ b → (TJ0 a).2.1 ≠ (TJ0 b).2.1 := by decide +kernel
theorem tyJ0_ok : ∀ k, k < 2 → parseFieldDescriptor (TJ0 k).2.2.1 = some (tyJ0 k) := by decide +kernel
def RJx00060 : String := "java/lang/ArrayIndexOutOfBoundsException"
def TJx00060 : u_T := fun k => match k with
  | 0 => ("java/lang/Throwable", "backtrace", "Ljava/lang/Object;", false)
  | 1 => ("java/lang/Throwable", "detailMessage", "Ljava/lang/String;", false)
  | 2 => ("java/lang/Throwable", "cause", "Ljava/lang/Throwable;", false)
  | 3 => ("java/lang/Throwable", "stackTrace", "[Ljava/lang/StackTraceElement;", false)
  | 4 => ("java/lang/Throwable", "depth", "I", false)
  | _ => ("java/lang/Throwable", "suppressedExceptions", "Ljava/util/List;", false)
def tyJx00060 : Nat → FieldType := fun k => match k with
  | 0 => .object "java/lang/Object"
  | 1 => .object "java/lang/String"
  | 2 => .object "java/lang/Throwable"
  | 3 => .array (.object "java/lang/StackTraceElement")
  | 4 => .int
  | _ => .object "java/util/List"
theorem nmJx00060 : ∀ a, a < 6 → ∀ b, b < 6 → a ≠ b → (TJx00060 a).2.1 ≠ (TJx00060 b).2.1 := by decide +kernel
theorem tyJx00060_ok : ∀ k, k < 6 → parseFieldDescriptor (TJx00060 k).2.2.1 = some (tyJx00060 k) := by decide +kernel
def RJx5d777 : String := "java/lang/NullPointerException"
def TJx5d777 : u_T := fun k => match k with
  | 0 => ("java/lang/Throwable", "backtrace", "Ljava/lang/Object;", false)
  | 1 => ("java/lang/Throwable", "detailMessage", "Ljava/lang/String;", false)
  | 2 => ("java/lang/Throwable", "cause", "Ljava/lang/Throwable;", false)
  | 3 => ("java/lang/Throwable", "stackTrace", "[Ljava/lang/StackTraceElement;", false)
  | 4 => ("java/lang/Throwable", "depth", "I", false)
  | 5 => ("java/lang/Throwable", "suppressedExceptions", "Ljava/util/List;", false)
  | 6 => ("java/lang/NullPointerException", "extendedMessageState", "I", false)
  | _ => ("java/lang/NullPointerException", "extendedMessage", "Ljava/lang/String;", false)
def tyJx5d777 : Nat → FieldType := fun k => match k with
  | 0 => .object "java/lang/Object"
  | 1 => .object "java/lang/String"
  | 2 => .object "java/lang/Throwable"
  | 3 => .array (.object "java/lang/StackTraceElement")
  | 4 => .int
  | 5 => .object "java/util/List"
  | 6 => .int
  | _ => .object "java/lang/String"
theorem nmJx5d777 : ∀ a, a < 8 → ∀ b, b < 8 → a ≠ b → (TJx5d777 a).2.1 ≠ (TJx5d777 b).2.1 := by decide +kernel
theorem tyJx5d777_ok : ∀ k, k < 8 → parseFieldDescriptor (TJx5d777 k).2.2.1 = some (tyJx5d777 k) := by decide +kernel
def RX0 : String := "PatternWorkshop$Alphabet"
def TX0 : u_T := fun k => match k with
  | 0 => ("PatternWorkshop$Alphabet", "count", "I", false)
  | _ => ("PatternWorkshop$Alphabet", "begins", "[I", true)
def tyX0 : Nat → FieldType := fun k => match k with
  | 0 => .int
  | _ => .array .int
theorem nmX0 : ∀ a, a < 2 → ∀ b, b < 2 → a ≠ b → (TX0 a).2.1 ≠ (TX0 b).2.1 := by decide +kernel
theorem tyX0_ok : ∀ k, k < 2 → parseFieldDescriptor (TX0 k).2.2.1 = some (tyX0 k) := by decide +kernel
def RX1 : String := "PatternWorkshop$GoingBack"
def TX1 : u_T := fun k => match k with
  | 0 => ("PatternWorkshop$GoingBack", "steps", "I", false)
  | 1 => ("PatternWorkshop$GoingBack", "tree", "LPatternWorkshop$Tree;", false)
  | 2 => ("PatternWorkshop$GoingBack", "subject", "LPatternWorkshop$Row;", false)
  | 3 => ("PatternWorkshop$GoingBack", "wholeOnly", "Z", false)
  | 4 => ("PatternWorkshop$GoingBack", "start", "I", false)
  | 5 => ("PatternWorkshop$GoingBack", "mode", "I", false)
  | 6 => ("PatternWorkshop$GoingBack", "node", "I", false)
  | 7 => ("PatternWorkshop$GoingBack", "place", "I", false)
  | 8 => ("PatternWorkshop$GoingBack", "limit", "I", false)
  | 9 => ("PatternWorkshop$GoingBack", "verdict", "I", false)
  | 10 => ("PatternWorkshop$GoingBack", "cells", "[I", true)
  | 11 => ("PatternWorkshop$GoingBack", "base", "[I", true)
  | 12 => ("PatternWorkshop$GoingBack", "entry", "[I", true)
  | 13 => ("PatternWorkshop$GoingBack", "from", "[I", true)
  | 14 => ("PatternWorkshop$GoingBack", "choices", "[I", false)
  | 15 => ("PatternWorkshop$GoingBack", "heights", "[I", false)
  | 16 => ("PatternWorkshop$GoingBack", "choiceCount", "I", false)
  | 17 => ("PatternWorkshop$GoingBack", "trail", "[I", false)
  | _ => ("PatternWorkshop$GoingBack", "trailCount", "I", false)
def tyX1 : Nat → FieldType := fun k => match k with
  | 0 => .int
  | 1 => .object "PatternWorkshop$Tree"
  | 2 => .object "PatternWorkshop$Row"
  | 3 => .boolean
  | 4 => .int
  | 5 => .int
  | 6 => .int
  | 7 => .int
  | 8 => .int
  | 9 => .int
  | 10 => .array .int
  | 11 => .array .int
  | 12 => .array .int
  | 13 => .array .int
  | 14 => .array .int
  | 15 => .array .int
  | 16 => .int
  | 17 => .array .int
  | _ => .int
theorem nmX1 : ∀ a, a < 19 → ∀ b, b < 19 → a ≠ b → (TX1 a).2.1 ≠ (TX1 b).2.1 := by decide +kernel
theorem tyX1_ok : ∀ k, k < 19 → parseFieldDescriptor (TX1 k).2.2.1 = some (tyX1 k) := by decide +kernel
def RX2 : String := "PatternWorkshop$Group"
def TX2 : u_T := fun k => match k with
  | 0 => ("PatternWorkshop$Group", "sort", "I", false)
  | 1 => ("PatternWorkshop$Group", "value", "I", false)
  | 2 => ("PatternWorkshop$Group", "name", "I", false)
  | 3 => ("PatternWorkshop$Group", "pending", "I", false)
  | 4 => ("PatternWorkshop$Group", "loopable", "Z", false)
  | 5 => ("PatternWorkshop$Group", "rowFirst", "I", false)
  | 6 => ("PatternWorkshop$Group", "rowLast", "I", false)
  | 7 => ("PatternWorkshop$Group", "rowCount", "I", false)
  | 8 => ("PatternWorkshop$Group", "choiceFirst", "I", false)
  | 9 => ("PatternWorkshop$Group", "choiceLast", "I", false)
  | _ => ("PatternWorkshop$Group", "choiceCount", "I", false)
def tyX2 : Nat → FieldType := fun k => match k with
  | 0 => .int
  | 1 => .int
  | 2 => .int
  | 3 => .int
  | 4 => .boolean
  | 5 => .int
  | 6 => .int
  | 7 => .int
  | 8 => .int
  | 9 => .int
  | _ => .int
theorem nmX2 : ∀ a, a < 11 → ∀ b, b < 11 → a ≠ b → (TX2 a).2.1 ≠ (TX2 b).2.1 := by decide +kernel
theorem tyX2_ok : ∀ k, k < 11 → parseFieldDescriptor (TX2 k).2.2.1 = some (tyX2 k) := by decide +kernel
def RX3 : String := "PatternWorkshop$Parallel"
def TX3 : u_T := fun k => match k with
  | 0 => ("PatternWorkshop$Parallel", "program", "LPatternWorkshop$Program;", true)
  | 1 => ("PatternWorkshop$Parallel", "subject", "LPatternWorkshop$Row;", false)
  | 2 => ("PatternWorkshop$Parallel", "width", "I", false)
  | 3 => ("PatternWorkshop$Parallel", "edges", "[Z", true)
  | 4 => ("PatternWorkshop$Parallel", "nowAt", "[I", false)
  | 5 => ("PatternWorkshop$Parallel", "nowCells", "[I", false)
  | 6 => ("PatternWorkshop$Parallel", "nowCount", "I", false)
  | 7 => ("PatternWorkshop$Parallel", "nextAt", "[I", false)
  | 8 => ("PatternWorkshop$Parallel", "nextCells", "[I", false)
  | 9 => ("PatternWorkshop$Parallel", "nextCount", "I", false)
  | 10 => ("PatternWorkshop$Parallel", "seen", "[I", true)
  | 11 => ("PatternWorkshop$Parallel", "waits", "[I", true)
  | 12 => ("PatternWorkshop$Parallel", "stamp", "I", false)
  | 13 => ("PatternWorkshop$Parallel", "cells", "[I", true)
  | 14 => ("PatternWorkshop$Parallel", "stack", "[I", true)
  | 15 => ("PatternWorkshop$Parallel", "kept", "[I", true)
  | _ => ("PatternWorkshop$Parallel", "stackCount", "I", false)
def tyX3 : Nat → FieldType := fun k => match k with
  | 0 => .object "PatternWorkshop$Program"
  | 1 => .object "PatternWorkshop$Row"
  | 2 => .int
  | 3 => .array .boolean
  | 4 => .array .int
  | 5 => .array .int
  | 6 => .int
  | 7 => .array .int
  | 8 => .array .int
  | 9 => .int
  | 10 => .array .int
  | 11 => .array .int
  | 12 => .int
  | 13 => .array .int
  | 14 => .array .int
  | 15 => .array .int
  | _ => .int
theorem nmX3 : ∀ a, a < 17 → ∀ b, b < 17 → a ≠ b → (TX3 a).2.1 ≠ (TX3 b).2.1 := by decide +kernel
theorem tyX3_ok : ∀ k, k < 17 → parseFieldDescriptor (TX3 k).2.2.1 = some (tyX3 k) := by decide +kernel
def RX4 : String := "PatternWorkshop$Printer"
def TX4 : u_T := fun k => match k with
  | 0 => ("PatternWorkshop$Printer", "row", "LPatternWorkshop$Row;", false)
  | _ => ("PatternWorkshop$Printer", "behindOpening", "I", false)
def tyX4 : Nat → FieldType := fun k => match k with
  | 0 => .object "PatternWorkshop$Row"
  | _ => .int
theorem nmX4 : ∀ a, a < 2 → ∀ b, b < 2 → a ≠ b → (TX4 a).2.1 ≠ (TX4 b).2.1 := by decide +kernel
theorem tyX4_ok : ∀ k, k < 2 → parseFieldDescriptor (TX4 k).2.2.1 = some (tyX4 k) := by decide +kernel
def RX5 : String := "PatternWorkshop$Program"
def TX5 : u_T := fun k => match k with
  | 0 => ("PatternWorkshop$Program", "start", "I", false)
  | 1 => ("PatternWorkshop$Program", "count", "I", false)
  | 2 => ("PatternWorkshop$Program", "tree", "LPatternWorkshop$Tree;", false)
  | 3 => ("PatternWorkshop$Program", "kinds", "[I", true)
  | 4 => ("PatternWorkshop$Program", "subjects", "[I", true)
  | 5 => ("PatternWorkshop$Program", "nexts", "[I", true)
  | _ => ("PatternWorkshop$Program", "others", "[I", true)
def tyX5 : Nat → FieldType := fun k => match k with
  | 0 => .int
  | 1 => .int
  | 2 => .object "PatternWorkshop$Tree"
  | 3 => .array .int
  | 4 => .array .int
  | 5 => .array .int
  | _ => .array .int
theorem nmX5 : ∀ a, a < 7 → ∀ b, b < 7 → a ≠ b → (TX5 a).2.1 ≠ (TX5 b).2.1 := by decide +kernel
theorem tyX5_ok : ∀ k, k < 7 → parseFieldDescriptor (TX5 k).2.2.1 = some (tyX5 k) := by decide +kernel
def RX6 : String := "PatternWorkshop$Reader"
def TX6 : u_T := fun k => match k with
  | 0 => ("PatternWorkshop$Reader", "fault", "I", false)
  | 1 => ("PatternWorkshop$Reader", "faultPlace", "I", false)
  | 2 => ("PatternWorkshop$Reader", "sort", "[I", true)
  | 3 => ("PatternWorkshop$Reader", "value", "[I", true)
  | 4 => ("PatternWorkshop$Reader", "low", "[I", true)
  | 5 => ("PatternWorkshop$Reader", "high", "[I", true)
  | 6 => ("PatternWorkshop$Reader", "firstPart", "[I", true)
  | 7 => ("PatternWorkshop$Reader", "nextPart", "[I", true)
  | 8 => ("PatternWorkshop$Reader", "count", "I", false)
  | 9 => ("PatternWorkshop$Reader", "groups", "[LPatternWorkshop$Group;", true)
  | 10 => ("PatternWorkshop$Reader", "depth", "I", false)
  | 11 => ("PatternWorkshop$Reader", "text", "LPatternWorkshop$Row;", false)
  | 12 => ("PatternWorkshop$Reader", "tree", "LPatternWorkshop$Tree;", false)
  | 13 => ("PatternWorkshop$Reader", "at", "I", false)
  | 14 => ("PatternWorkshop$Reader", "items", "I", false)
  | 15 => ("PatternWorkshop$Reader", "captureOfName", "[I", true)
  | 16 => ("PatternWorkshop$Reader", "partBegin", "[I", true)
  | 17 => ("PatternWorkshop$Reader", "partEnd", "[I", true)
  | _ => ("PatternWorkshop$Reader", "partCount", "I", false)
def tyX6 : Nat → FieldType := fun k => match k with
  | 0 => .int
  | 1 => .int
  | 2 => .array .int
  | 3 => .array .int
  | 4 => .array .int
  | 5 => .array .int
  | 6 => .array .int
  | 7 => .array .int
  | 8 => .int
  | 9 => .array (.object "PatternWorkshop$Group")
  | 10 => .int
  | 11 => .object "PatternWorkshop$Row"
  | 12 => .object "PatternWorkshop$Tree"
  | 13 => .int
  | 14 => .int
  | 15 => .array .int
  | 16 => .array .int
  | 17 => .array .int
  | _ => .int
theorem nmX6 : ∀ a, a < 19 → ∀ b, b < 19 → a ≠ b → (TX6 a).2.1 ≠ (TX6 b).2.1 := by decide +kernel
theorem tyX6_ok : ∀ k, k < 19 → parseFieldDescriptor (TX6 k).2.2.1 = some (tyX6 k) := by decide +kernel
def RX7 : String := "PatternWorkshop$Row"
def TX7 : u_T := fun k => match k with
  | 0 => ("PatternWorkshop$Row", "items", "[I", true)
  | 1 => ("PatternWorkshop$Row", "count", "I", false)
  | 2 => ("PatternWorkshop$Row", "over", "Z", false)
  | _ => ("PatternWorkshop$Row", "there", "Z", false)
def tyX7 : Nat → FieldType := fun k => match k with
  | 0 => .array .int
  | 1 => .int
  | 2 => .boolean
  | _ => .boolean
theorem nmX7 : ∀ a, a < 4 → ∀ b, b < 4 → a ≠ b → (TX7 a).2.1 ≠ (TX7 b).2.1 := by decide +kernel
theorem tyX7_ok : ∀ k, k < 4 → parseFieldDescriptor (TX7 k).2.2.1 = some (tyX7 k) := by decide +kernel
def RX8 : String := "PatternWorkshop$Sets"
def TX8 : u_T := fun k => match k with
  | 0 => ("PatternWorkshop$Sets", "alphabet", "LPatternWorkshop$Alphabet;", true)
  | 1 => ("PatternWorkshop$Sets", "one", "LPatternWorkshop$Table;", true)
  | 2 => ("PatternWorkshop$Sets", "other", "LPatternWorkshop$Table;", true)
  | 3 => ("PatternWorkshop$Sets", "onlyInOne", "Z", false)
  | 4 => ("PatternWorkshop$Sets", "onlyInOther", "Z", false)
  | 5 => ("PatternWorkshop$Sets", "met", "[I", true)
  | 6 => ("PatternWorkshop$Sets", "stamp", "I", false)
  | 7 => ("PatternWorkshop$Sets", "pairs", "[I", true)
  | 8 => ("PatternWorkshop$Sets", "cameFrom", "[I", true)
  | 9 => ("PatternWorkshop$Sets", "cameBy", "[I", true)
  | 10 => ("PatternWorkshop$Sets", "pairCount", "I", false)
  | _ => ("PatternWorkshop$Sets", "parted", "I", false)
def tyX8 : Nat → FieldType := fun k => match k with
  | 0 => .object "PatternWorkshop$Alphabet"
  | 1 => .object "PatternWorkshop$Table"
  | 2 => .object "PatternWorkshop$Table"
  | 3 => .boolean
  | 4 => .boolean
  | 5 => .array .int
  | 6 => .int
  | 7 => .array .int
  | 8 => .array .int
  | 9 => .array .int
  | 10 => .int
  | _ => .int
theorem nmX8 : ∀ a, a < 12 → ∀ b, b < 12 → a ≠ b → (TX8 a).2.1 ≠ (TX8 b).2.1 := by decide +kernel
theorem tyX8_ok : ∀ k, k < 12 → parseFieldDescriptor (TX8 k).2.2.1 = some (tyX8 k) := by decide +kernel
def RX9 : String := "PatternWorkshop$Table"
def TX9 : u_T := fun k => match k with
  | 0 => ("PatternWorkshop$Table", "count", "I", false)
  | 1 => ("PatternWorkshop$Table", "program", "LPatternWorkshop$Program;", true)
  | 2 => ("PatternWorkshop$Table", "positionCount", "I", false)
  | 3 => ("PatternWorkshop$Table", "positionOf", "[I", true)
  | 4 => ("PatternWorkshop$Table", "pcOf", "[I", true)
  | 5 => ("PatternWorkshop$Table", "follow", "[J", true)
  | 6 => ("PatternWorkshop$Table", "takers", "[J", true)
  | 7 => ("PatternWorkshop$Table", "seen", "[I", true)
  | 8 => ("PatternWorkshop$Table", "stamp", "I", false)
  | 9 => ("PatternWorkshop$Table", "stack", "[I", true)
  | 10 => ("PatternWorkshop$Table", "stackCount", "I", false)
  | 11 => ("PatternWorkshop$Table", "width", "I", false)
  | 12 => ("PatternWorkshop$Table", "states", "[J", true)
  | 13 => ("PatternWorkshop$Table", "ahead", "[J", true)
  | 14 => ("PatternWorkshop$Table", "goes", "[I", true)
  | 15 => ("PatternWorkshop$Table", "live", "[Z", true)
  | 16 => ("PatternWorkshop$Table", "groups", "[I", true)
  | _ => ("PatternWorkshop$Table", "finer", "[I", true)
def tyX9 : Nat → FieldType := fun k => match k with
  | 0 => .int
  | 1 => .object "PatternWorkshop$Program"
  | 2 => .int
  | 3 => .array .int
  | 4 => .array .int
  | 5 => .array .long
  | 6 => .array .long
  | 7 => .array .int
  | 8 => .int
  | 9 => .array .int
  | 10 => .int
  | 11 => .int
  | 12 => .array .long
  | 13 => .array .long
  | 14 => .array .int
  | 15 => .array .boolean
  | 16 => .array .int
  | _ => .array .int
theorem nmX9 : ∀ a, a < 18 → ∀ b, b < 18 → a ≠ b → (TX9 a).2.1 ≠ (TX9 b).2.1 := by decide +kernel
theorem tyX9_ok : ∀ k, k < 18 → parseFieldDescriptor (TX9 k).2.2.1 = some (tyX9 k) := by decide +kernel
def RX10 : String := "PatternWorkshop$Tree"
def TX10 : u_T := fun k => match k with
  | 0 => ("PatternWorkshop$Tree", "there", "Z", false)
  | 1 => ("PatternWorkshop$Tree", "count", "I", false)
  | 2 => ("PatternWorkshop$Tree", "captures", "I", false)
  | 3 => ("PatternWorkshop$Tree", "ranges", "I", false)
  | 4 => ("PatternWorkshop$Tree", "sort", "[I", true)
  | 5 => ("PatternWorkshop$Tree", "holder", "[I", true)
  | 6 => ("PatternWorkshop$Tree", "end", "[I", true)
  | 7 => ("PatternWorkshop$Tree", "before", "[I", true)
  | 8 => ("PatternWorkshop$Tree", "last", "[I", true)
  | 9 => ("PatternWorkshop$Tree", "parts", "[I", true)
  | 10 => ("PatternWorkshop$Tree", "value", "[I", true)
  | 11 => ("PatternWorkshop$Tree", "low", "[I", true)
  | 12 => ("PatternWorkshop$Tree", "high", "[I", true)
  | 13 => ("PatternWorkshop$Tree", "size", "[I", true)
  | 14 => ("PatternWorkshop$Tree", "positions", "[I", true)
  | 15 => ("PatternWorkshop$Tree", "mayBeEmpty", "[Z", true)
  | 16 => ("PatternWorkshop$Tree", "withinCase", "[Z", true)
  | 17 => ("PatternWorkshop$Tree", "marked", "[Z", true)
  | 18 => ("PatternWorkshop$Tree", "rangeBegin", "[I", true)
  | _ => ("PatternWorkshop$Tree", "rangeEnd", "[I", true)
def tyX10 : Nat → FieldType := fun k => match k with
  | 0 => .boolean
  | 1 => .int
  | 2 => .int
  | 3 => .int
  | 4 => .array .int
  | 5 => .array .int
  | 6 => .array .int
  | 7 => .array .int
  | 8 => .array .int
  | 9 => .array .int
  | 10 => .array .int
  | 11 => .array .int
  | 12 => .array .int
  | 13 => .array .int
  | 14 => .array .int
  | 15 => .array .boolean
  | 16 => .array .boolean
  | 17 => .array .boolean
  | 18 => .array .int
  | _ => .array .int
theorem nmX10 : ∀ a, a < 20 → ∀ b, b < 20 → a ≠ b → (TX10 a).2.1 ≠ (TX10 b).2.1 := by decide +kernel
theorem tyX10_ok : ∀ k, k < 20 → parseFieldDescriptor (TX10 k).2.2.1 = some (tyX10 k) := by decide +kernel
def RX11 : String := "PatternWorkshop"
def TX11 : u_T := fun k => match k with
  | 0 => ("PatternWorkshop", "tape", "LPatternWorkshop$Row;", true)
  | 1 => ("PatternWorkshop", "patterns", "[LPatternWorkshop$Tree;", true)
  | 2 => ("PatternWorkshop", "subjects", "[LPatternWorkshop$Row;", true)
  | 3 => ("PatternWorkshop", "outRow", "LPatternWorkshop$Row;", true)
  | 4 => ("PatternWorkshop", "outHasNumbers", "Z", false)
  | 5 => ("PatternWorkshop", "draft", "LPatternWorkshop$Row;", true)
  | 6 => ("PatternWorkshop", "spans", "LPatternWorkshop$Row;", true)
  | 7 => ("PatternWorkshop", "found", "LPatternWorkshop$Row;", true)
  | 8 => ("PatternWorkshop", "reader", "LPatternWorkshop$Reader;", true)
  | 9 => ("PatternWorkshop", "printer", "LPatternWorkshop$Printer;", true)
  | 10 => ("PatternWorkshop", "goingBack", "LPatternWorkshop$GoingBack;", true)
  | 11 => ("PatternWorkshop", "parallel", "LPatternWorkshop$Parallel;", true)
  | 12 => ("PatternWorkshop", "sets", "LPatternWorkshop$Sets;", true)
  | 13 => ("PatternWorkshop", "faultPlace", "I", false)
  | 14 => ("PatternWorkshop", "latestFinding", "I", false)
  | 15 => ("PatternWorkshop", "latestSteps", "I", false)
  | 16 => ("PatternWorkshop", "openSlot", "I", false)
  | _ => ("PatternWorkshop", "openSubject", "I", false)
def tyX11 : Nat → FieldType := fun k => match k with
  | 0 => .object "PatternWorkshop$Row"
  | 1 => .array (.object "PatternWorkshop$Tree")
  | 2 => .array (.object "PatternWorkshop$Row")
  | 3 => .object "PatternWorkshop$Row"
  | 4 => .boolean
  | 5 => .object "PatternWorkshop$Row"
  | 6 => .object "PatternWorkshop$Row"
  | 7 => .object "PatternWorkshop$Row"
  | 8 => .object "PatternWorkshop$Reader"
  | 9 => .object "PatternWorkshop$Printer"
  | 10 => .object "PatternWorkshop$GoingBack"
  | 11 => .object "PatternWorkshop$Parallel"
  | 12 => .object "PatternWorkshop$Sets"
  | 13 => .int
  | 14 => .int
  | 15 => .int
  | 16 => .int
  | _ => .int
theorem nmX11 : ∀ a, a < 18 → ∀ b, b < 18 → a ≠ b → (TX11 a).2.1 ≠ (TX11 b).2.1 := by decide +kernel
theorem tyX11_ok : ∀ k, k < 18 → parseFieldDescriptor (TX11 k).2.2.1 = some (tyX11 k) := by decide +kernel
def RX12 : String := "PatternWorkshopModel"
def TX12 : u_T := fun k => match k with
  | 0 => ("PatternWorkshopModel", "thrown", "I", false)
  | 1 => ("PatternWorkshopModel", "finding", "I", false)
  | 2 => ("PatternWorkshopModel", "tape", "[I", true)
  | 3 => ("PatternWorkshopModel", "taped", "I", false)
  | 4 => ("PatternWorkshopModel", "faultPlace", "I", false)
  | 5 => ("PatternWorkshopModel", "isThere", "[Z", true)
  | 6 => ("PatternWorkshopModel", "many", "[I", true)
  | 7 => ("PatternWorkshopModel", "captures", "[I", true)
  | 8 => ("PatternWorkshopModel", "nameOf", "[I", true)
  | 9 => ("PatternWorkshopModel", "sort", "[I", true)
  | 10 => ("PatternWorkshopModel", "value", "[I", true)
  | 11 => ("PatternWorkshopModel", "least", "[I", true)
  | 12 => ("PatternWorkshopModel", "most", "[I", true)
  | 13 => ("PatternWorkshopModel", "holder", "[I", true)
  | 14 => ("PatternWorkshopModel", "parts", "[I", true)
  | 15 => ("PatternWorkshopModel", "end", "[I", true)
  | 16 => ("PatternWorkshopModel", "size", "[I", true)
  | 17 => ("PatternWorkshopModel", "positions", "[I", true)
  | 18 => ("PatternWorkshopModel", "firstPart", "[I", true)
  | 19 => ("PatternWorkshopModel", "mayEmpty", "[Z", true)
  | 20 => ("PatternWorkshopModel", "inCase", "[Z", true)
  | 21 => ("PatternWorkshopModel", "partBegin", "[I", true)
  | 22 => ("PatternWorkshopModel", "partEnd", "[I", true)
  | 23 => ("PatternWorkshopModel", "newSort", "[I", true)
  | 24 => ("PatternWorkshopModel", "newValue", "[I", true)
  | 25 => ("PatternWorkshopModel", "newLeast", "[I", true)
  | 26 => ("PatternWorkshopModel", "newMost", "[I", true)
  | 27 => ("PatternWorkshopModel", "newFirst", "[I", true)
  | 28 => ("PatternWorkshopModel", "newNext", "[I", true)
  | 29 => ("PatternWorkshopModel", "newMany", "[I", true)
  | 30 => ("PatternWorkshopModel", "newPart", "[I", true)
  | 31 => ("PatternWorkshopModel", "newNodes", "I", false)
  | 32 => ("PatternWorkshopModel", "newBegin", "[I", true)
  | 33 => ("PatternWorkshopModel", "newEnd", "[I", true)
  | 34 => ("PatternWorkshopModel", "newParts", "I", false)
  | 35 => ("PatternWorkshopModel", "fault", "I", false)
  | 36 => ("PatternWorkshopModel", "faultAt", "I", false)
  | 37 => ("PatternWorkshopModel", "at", "I", false)
  | 38 => ("PatternWorkshopModel", "items", "I", false)
  | 39 => ("PatternWorkshopModel", "newCaptures", "I", false)
  | 40 => ("PatternWorkshopModel", "newNames", "[I", true)
  | 41 => ("PatternWorkshopModel", "depth", "I", false)
  | 42 => ("PatternWorkshopModel", "groupSort", "[I", true)
  | 43 => ("PatternWorkshopModel", "groupValue", "[I", true)
  | 44 => ("PatternWorkshopModel", "rowFirst", "[I", true)
  | 45 => ("PatternWorkshopModel", "rowLast", "[I", true)
  | 46 => ("PatternWorkshopModel", "rowMany", "[I", true)
  | 47 => ("PatternWorkshopModel", "rowsFirst", "[I", true)
  | 48 => ("PatternWorkshopModel", "rowsLast", "[I", true)
  | 49 => ("PatternWorkshopModel", "rowsMany", "[I", true)
  | 50 => ("PatternWorkshopModel", "memberValue", "I", false)
  | 51 => ("PatternWorkshopModel", "memberEnd", "I", false)
  | 52 => ("PatternWorkshopModel", "loopLeast", "I", false)
  | 53 => ("PatternWorkshopModel", "loopMost", "I", false)
  | 54 => ("PatternWorkshopModel", "waiting", "[I", true)
  | 55 => ("PatternWorkshopModel", "waitingHolder", "[I", true)
  | 56 => ("PatternWorkshopModel", "printed", "[I", true)
  | 57 => ("PatternWorkshopModel", "printedMany", "I", false)
  | 58 => ("PatternWorkshopModel", "printedAlso", "[I", true)
  | 59 => ("PatternWorkshopModel", "opened", "I", false)
  | 60 => ("PatternWorkshopModel", "out", "[I", true)
  | 61 => ("PatternWorkshopModel", "outMany", "I", false)
  | 62 => ("PatternWorkshopModel", "outNumbers", "Z", false)
  | 63 => ("PatternWorkshopModel", "begun", "[Z", true)
  | 64 => ("PatternWorkshopModel", "isBound", "[Z", true)
  | 65 => ("PatternWorkshopModel", "bounds", "[I", true)
  | 66 => ("PatternWorkshopModel", "boundMany", "I", false)
  | 67 => ("PatternWorkshopModel", "isRisky", "[Z", true)
  | 68 => ("PatternWorkshopModel", "isSubject", "[Z", true)
  | 69 => ("PatternWorkshopModel", "long0", "[I", true)
  | 70 => ("PatternWorkshopModel", "signs", "[I", true)
  | 71 => ("PatternWorkshopModel", "act", "[I", true)
  | 72 => ("PatternWorkshopModel", "actA", "[I", true)
  | 73 => ("PatternWorkshopModel", "actB", "[I", true)
  | 74 => ("PatternWorkshopModel", "acts", "I", false)
  | 75 => ("PatternWorkshopModel", "labelAt", "[I", true)
  | 76 => ("PatternWorkshopModel", "labels", "I", false)
  | 77 => ("PatternWorkshopModel", "task", "[I", true)
  | 78 => ("PatternWorkshopModel", "taskA", "[I", true)
  | 79 => ("PatternWorkshopModel", "taskB", "[I", true)
  | 80 => ("PatternWorkshopModel", "tasks", "I", false)
  | 81 => ("PatternWorkshopModel", "held", "[I", true)
  | 82 => ("PatternWorkshopModel", "reg", "[I", true)
  | 83 => ("PatternWorkshopModel", "trailOf", "[I", true)
  | 84 => ("PatternWorkshopModel", "trailOld", "[I", true)
  | 85 => ("PatternWorkshopModel", "trail", "I", false)
  | 86 => ("PatternWorkshopModel", "choiceSort", "[I", true)
  | 87 => ("PatternWorkshopModel", "choiceAct", "[I", true)
  | 88 => ("PatternWorkshopModel", "choicePlace", "[I", true)
  | 89 => ("PatternWorkshopModel", "choiceTrail", "[I", true)
  | 90 => ("PatternWorkshopModel", "choices", "I", false)
  | 91 => ("PatternWorkshopModel", "now", "I", false)
  | 92 => ("PatternWorkshopModel", "spot", "I", false)
  | 93 => ("PatternWorkshopModel", "slotNow", "I", false)
  | 94 => ("PatternWorkshopModel", "textNow", "I", false)
  | 95 => ("PatternWorkshopModel", "longNow", "I", false)
  | 96 => ("PatternWorkshopModel", "steps", "I", false)
  | 97 => ("PatternWorkshopModel", "limit", "I", false)
  | 98 => ("PatternWorkshopModel", "isOver", "Z", false)
  | 99 => ("PatternWorkshopModel", "seen", "[I", true)
  | 100 => ("PatternWorkshopModel", "stamp", "I", false)
  | 101 => ("PatternWorkshopModel", "found", "[I", true)
  | 102 => ("PatternWorkshopModel", "isGoing", "Z", false)
  | 103 => ("PatternWorkshopModel", "goSlot", "I", false)
  | 104 => ("PatternWorkshopModel", "goSubject", "I", false)
  | 105 => ("PatternWorkshopModel", "goFrom", "I", false)
  | 106 => ("PatternWorkshopModel", "goSteps", "I", false)
  | 107 => ("PatternWorkshopModel", "span", "[I", true)
  | 108 => ("PatternWorkshopModel", "hasSpan", "Z", false)
  | 109 => ("PatternWorkshopModel", "spanCaptures", "I", false)
  | 110 => ("PatternWorkshopModel", "finds", "[I", true)
  | 111 => ("PatternWorkshopModel", "findMany", "I", false)
  | 112 => ("PatternWorkshopModel", "madeSigns", "[I", true)
  | 113 => ("PatternWorkshopModel", "madeMany", "I", false)
  | 114 => ("PatternWorkshopModel", "follows", "[J", true)
  | 115 => ("PatternWorkshopModel", "endsAfter", "[Z", true)
  | 116 => ("PatternWorkshopModel", "eaters", "I", false)
  | 117 => ("PatternWorkshopModel", "eaterOf", "[I", true)
  | 118 => ("PatternWorkshopModel", "eaterNode", "[I", true)
  | 119 => ("PatternWorkshopModel", "isGone", "[Z", true)
  | 120 => ("PatternWorkshopModel", "walk", "[I", true)
  | 121 => ("PatternWorkshopModel", "reached", "J", false)
  | 122 => ("PatternWorkshopModel", "reachesEnd", "Z", false)
  | 123 => ("PatternWorkshopModel", "states", "[I", true)
  | 124 => ("PatternWorkshopModel", "stateSet", "[J", true)
  | 125 => ("PatternWorkshopModel", "isTaken", "[Z", true)
  | 126 => ("PatternWorkshopModel", "isLive", "[Z", true)
  | 127 => ("PatternWorkshopModel", "classes", "[I", true)
  | 128 => ("PatternWorkshopModel", "classTakes", "[J", true)
  | 129 => ("PatternWorkshopModel", "classOf", "[I", true)
  | 130 => ("PatternWorkshopModel", "leads", "[I", true)
  | 131 => ("PatternWorkshopModel", "group", "[I", true)
  | 132 => ("PatternWorkshopModel", "newGroup", "[I", true)
  | 133 => ("PatternWorkshopModel", "pairA", "[I", true)
  | 134 => ("PatternWorkshopModel", "pairB", "[I", true)
  | 135 => ("PatternWorkshopModel", "pairFrom", "[I", true)
  | 136 => ("PatternWorkshopModel", "pairSign", "[I", true)
  | 137 => ("PatternWorkshopModel", "isPair", "[Z", true)
  | 138 => ("PatternWorkshopModel", "pairs", "I", false)
  | 139 => ("PatternWorkshopModel", "sortA", "[I", true)
  | 140 => ("PatternWorkshopModel", "sortB", "[I", true)
  | 141 => ("PatternWorkshopModel", "sortSign", "[I", true)
  | _ => ("PatternWorkshopModel", "sorts", "I", false)
def tyX12 : Nat → FieldType := fun k => match k with
  | 0 => .int
  | 1 => .int
  | 2 => .array .int
  | 3 => .int
  | 4 => .int
  | 5 => .array .boolean
  | 6 => .array .int
  | 7 => .array .int
  | 8 => .array .int
  | 9 => .array .int
  | 10 => .array .int
  | 11 => .array .int
  | 12 => .array .int
  | 13 => .array .int
  | 14 => .array .int
  | 15 => .array .int
  | 16 => .array .int
  | 17 => .array .int
  | 18 => .array .int
  | 19 => .array .boolean
  | 20 => .array .boolean
  | 21 => .array .int
  | 22 => .array .int
  | 23 => .array .int
  | 24 => .array .int
  | 25 => .array .int
  | 26 => .array .int
  | 27 => .array .int
  | 28 => .array .int
  | 29 => .array .int
  | 30 => .array .int
  | 31 => .int
  | 32 => .array .int
  | 33 => .array .int
  | 34 => .int
  | 35 => .int
  | 36 => .int
  | 37 => .int
  | 38 => .int
  | 39 => .int
  | 40 => .array .int
  | 41 => .int
  | 42 => .array .int
  | 43 => .array .int
  | 44 => .array .int
  | 45 => .array .int
  | 46 => .array .int
  | 47 => .array .int
  | 48 => .array .int
  | 49 => .array .int
  | 50 => .int
  | 51 => .int
  | 52 => .int
  | 53 => .int
  | 54 => .array .int
  | 55 => .array .int
  | 56 => .array .int
  | 57 => .int
  | 58 => .array .int
  | 59 => .int
  | 60 => .array .int
  | 61 => .int
  | 62 => .boolean
  | 63 => .array .boolean
  | 64 => .array .boolean
  | 65 => .array .int
  | 66 => .int
  | 67 => .array .boolean
  | 68 => .array .boolean
  | 69 => .array .int
  | 70 => .array .int
  | 71 => .array .int
  | 72 => .array .int
  | 73 => .array .int
  | 74 => .int
  | 75 => .array .int
  | 76 => .int
  | 77 => .array .int
  | 78 => .array .int
  | 79 => .array .int
  | 80 => .int
  | 81 => .array .int
  | 82 => .array .int
  | 83 => .array .int
  | 84 => .array .int
  | 85 => .int
  | 86 => .array .int
  | 87 => .array .int
  | 88 => .array .int
  | 89 => .array .int
  | 90 => .int
  | 91 => .int
  | 92 => .int
  | 93 => .int
  | 94 => .int
  | 95 => .int
  | 96 => .int
  | 97 => .int
  | 98 => .boolean
  | 99 => .array .int
  | 100 => .int
  | 101 => .array .int
  | 102 => .boolean
  | 103 => .int
  | 104 => .int
  | 105 => .int
  | 106 => .int
  | 107 => .array .int
  | 108 => .boolean
  | 109 => .int
  | 110 => .array .int
  | 111 => .int
  | 112 => .array .int
  | 113 => .int
  | 114 => .array .long
  | 115 => .array .boolean
  | 116 => .int
  | 117 => .array .int
  | 118 => .array .int
  | 119 => .array .boolean
  | 120 => .array .int
  | 121 => .long
  | 122 => .boolean
  | 123 => .array .int
  | 124 => .array .long
  | 125 => .array .boolean
  | 126 => .array .boolean
  | 127 => .array .int
  | 128 => .array .long
  | 129 => .array .int
  | 130 => .array .int
  | 131 => .array .int
  | 132 => .array .int
  | 133 => .array .int
  | 134 => .array .int
  | 135 => .array .int
  | 136 => .array .int
  | 137 => .array .boolean
  | 138 => .int
  | 139 => .array .int
  | 140 => .array .int
  | 141 => .array .int
  | _ => .int
theorem nmX12 : ∀ a, a < 143 → ∀ b, b < 143 → a ≠ b → (TX12 a).2.1 ≠ (TX12 b).2.1 := by decide +kernel
theorem tyX12_ok : ∀ k, k < 143 → parseFieldDescriptor (TX12 k).2.2.1 = some (tyX12 k) := by decide +kernel
abbrev vwCl : List vw_C := [(RJ0, TJ0, 2), (RJx00060, TJx00060, 6), (RJx5d777, TJx5d777, 8), (RX0, TX0, 2), (RX1, TX1, 19), (RX2, TX2, 11), (RX3, TX3, 17), (RX4, TX4, 2), (RX5, TX5, 7), (RX6, TX6, 19), (RX7, TX7, 4), (RX8, TX8, 12), (RX9, TX9, 18), (RX10, TX10, 20), (RX11, TX11, 18), (RX12, TX12, 143)]
def TW : List Cond := lw_tbl.filter goodWord
def WS (y : MethodName) (b : ByteArray) (n : Nat) (r : Option FieldType) : List Cond := .code y b n r :: TW
theorem tw_of {w : Cond} (i : Nat) (h : lw_tbl[i]? = some w) (hg : goodWord w = true) : w ∈ TW := List.mem_filter.mpr ⟨List.mem_of_getElem? h, hg⟩
theorem tw_in {w : Cond} (h : w ∈ lw_tbl) (hg : goodWord w = true) : w ∈ TW := List.mem_filter.mpr ⟨h, hg⟩
theorem tb_0 {w : Cond} (h : w ∈ tables_1_1) : w ∈ lw_tbl := List.mem_append_right _ (show w ∈ tables_1 from (List.mem_append_left _ h))
theorem tb_1 {w : Cond} (h : w ∈ tables_1_2) : w ∈ lw_tbl := List.mem_append_right _ (show w ∈ tables_1 from (List.mem_append_right _ (List.mem_append_left _ h)))
theorem tb_2 {w : Cond} (h : w ∈ tables_1_3) : w ∈ lw_tbl := List.mem_append_right _ (show w ∈ tables_1 from (List.mem_append_right _ (List.mem_append_right _ (List.mem_append_left _ h))))
theorem tb_3 {w : Cond} (h : w ∈ tables_1_4) : w ∈ lw_tbl := List.mem_append_right _ (show w ∈ tables_1 from (List.mem_append_right _ (List.mem_append_right _ (List.mem_append_right _ (List.mem_append_left _ h)))))
theorem tb_4 {w : Cond} (h : w ∈ tables_1_5) : w ∈ lw_tbl := List.mem_append_right _ (show w ∈ tables_1 from (List.mem_append_right _ (List.mem_append_right _ (List.mem_append_right _ (List.mem_append_right _ (List.mem_append_left _ h))))))
theorem tb_5 {w : Cond} (h : w ∈ tables_1_6) : w ∈ lw_tbl := List.mem_append_right _ (show w ∈ tables_1 from (List.mem_append_right _ (List.mem_append_right _ (List.mem_append_right _ (List.mem_append_right _ (List.mem_append_right _ (List.mem_append_left _ h)))))))
theorem tb_6 {w : Cond} (h : w ∈ tables_1_7) : w ∈ lw_tbl := List.mem_append_right _ (show w ∈ tables_1 from (List.mem_append_right _ (List.mem_append_right _ (List.mem_append_right _ (List.mem_append_right _ (List.mem_append_right _ (List.mem_append_right _ (List.mem_append_left _ h))))))))
theorem tb_7 {w : Cond} (h : w ∈ tables_1_8) : w ∈ lw_tbl := List.mem_append_right _ (show w ∈ tables_1 from (List.mem_append_right _ (List.mem_append_right _ (List.mem_append_right _ (List.mem_append_right _ (List.mem_append_right _ (List.mem_append_right _ (List.mem_append_right _ (List.mem_append_left _ h)))))))))
theorem tb_8 {w : Cond} (h : w ∈ tables_1_9) : w ∈ lw_tbl := List.mem_append_right _ (show w ∈ tables_1 from (List.mem_append_right _ (List.mem_append_right _ (List.mem_append_right _ (List.mem_append_right _ (List.mem_append_right _ (List.mem_append_right _ (List.mem_append_right _ (List.mem_append_right _ (List.mem_append_left _ h))))))))))
theorem tb_9 {w : Cond} (h : w ∈ tables_1_10) : w ∈ lw_tbl := List.mem_append_right _ (show w ∈ tables_1 from (List.mem_append_right _ (List.mem_append_right _ (List.mem_append_right _ (List.mem_append_right _ (List.mem_append_right _ (List.mem_append_right _ (List.mem_append_right _ (List.mem_append_right _ (List.mem_append_right _ (List.mem_append_left _ h)))))))))))
theorem tb_10 {w : Cond} (h : w ∈ tables_1_11) : w ∈ lw_tbl := List.mem_append_right _ (show w ∈ tables_1 from (List.mem_append_right _ (List.mem_append_right _ (List.mem_append_right _ (List.mem_append_right _ (List.mem_append_right _ (List.mem_append_right _ (List.mem_append_right _ (List.mem_append_right _ (List.mem_append_right _ (List.mem_append_right _ (List.mem_append_left _ h))))))))))))
theorem tb_11 {w : Cond} (h : w ∈ tables_1_12) : w ∈ lw_tbl := List.mem_append_right _ (show w ∈ tables_1 from (List.mem_append_right _ (List.mem_append_right _ (List.mem_append_right _ (List.mem_append_right _ (List.mem_append_right _ (List.mem_append_right _ (List.mem_append_right _ (List.mem_append_right _ (List.mem_append_right _ (List.mem_append_right _ (List.mem_append_right _ h))))))))))))
def RJ7 : String := "java/util/Arrays"
theorem tw_good {w : Cond} (h : w ∈ TW) : w ∈ TW ∧ ((w.onTables && w.keeps) = true ∨ ∃ ty, w = .arrayClass ty) := ⟨h, good_of_word (List.mem_filter.mp h).2⟩
theorem in_of {ws : List Cond} (ps : List Nat) (hp : ws = ps.filterMap (fun i => lw_tbl[i]?)) (hg : ws.all goodWord = true) : ∀ w ∈ ws, w ∈ TW := by
  intro w hw
  have h1 := List.all_eq_true.mp hg w hw
  rw [hp] at hw
  obtain ⟨i, -, hi⟩ := List.mem_filterMap.mp hw
  exact tw_of i hi h1
theorem goodC {y : MethodName} {b : ByteArray} {n : Nat} {r : Option FieldType} (h : Cond.code y b n r ∈ TW) : GoodIn TW (WS y b n r) := fun w hw => (List.mem_cons.mp hw).elim (fun e => by rw [e]; exact tw_good h) (fun h => tw_good h)
theorem goodV {own C : String} {idx : Nat} {y : MethodName} {ws : List Cond} (h1 : Cond.methodLink own idx y ∈ TW) (h2 : Cond.instanceMethod y ∈ TW) (h3 : Cond.selects C y y ∈ TW) (h4 : Cond.initialized C ∈ TW) (h5 : GoodIn TW ws) : GoodIn TW (wsV own idx C y ws) := by
  intro w hw
  simp only [wsV, List.mem_append, List.mem_cons, List.not_mem_nil, or_false] at hw
  rcases hw with (rfl | rfl | rfl | rfl) | h
  · exact tw_good h1
  · exact tw_good h2
  · exact tw_good h3
  · exact tw_good h4
  · exact h5 w h
theorem goodS {own : String} {idx : Nat} {y : MethodName} {ws : List Cond} (h1 : Cond.methodLink own idx y ∈ TW) (h2 : Cond.static y ∈ TW) (h4 : Cond.initialized own ∈ TW) (h5 : GoodIn TW ws) : GoodIn TW (wsS own idx y ws) := by
  intro w hw
  simp only [wsS, List.mem_append, List.mem_cons, List.not_mem_nil, or_false] at hw
  rcases hw with (rfl | rfl | rfl) | h
  · exact tw_good h1
  · exact tw_good h2
  · exact tw_good h4
  · exact h5 w h
theorem goodSS {own : String} {idx : Nat} {y : MethodName} {ws : List Cond} (h1 : Cond.methodLink own idx y ∈ TW) (h2 : Cond.static y ∈ TW) (h4 : Cond.initialized y.cls ∈ TW) (h5 : GoodIn TW ws) : GoodIn TW (va_wsS own idx y ws) := by
  intro w hw
  simp only [va_wsS, List.mem_append, List.mem_cons, List.not_mem_nil, or_false] at hw
  rcases hw with (rfl | rfl | rfl) | h
  · exact tw_good h1
  · exact tw_good h2
  · exact tw_good h4
  · exact h5 w h
set_option maxRecDepth 20000 in
theorem inX0 : ∀ w ∈ u_ws RX0 TX0 2, w ∈ TW := in_of [688, 690] (by decide +kernel) (by decide +kernel)
set_option maxRecDepth 20000 in
theorem dfX0 : ∀ j, j < 2 → defaultValue (tyX0 j) = vp_V [.int 0, .null] j := by decide +kernel
set_option maxRecDepth 20000 in
theorem inX1 : ∀ w ∈ u_ws RX1 TX1 19, w ∈ TW := in_of [540, 542, 544, 546, 548, 550, 552, 554, 556, 558, 560, 562, 564, 566, 568, 570, 572, 574, 576] (by decide +kernel) (by decide +kernel)
set_option maxRecDepth 20000 in
theorem dfX1 : ∀ j, j < 19 → defaultValue (tyX1 j) = vp_V [.int 0, .null, .null, .int 0, .int 0, .int 0, .int 0, .int 0, .int 0, .int 0, .null, .null, .null, .null, .null, .null, .int 0, .null, .int 0] j := by decide +kernel
set_option maxRecDepth 20000 in
theorem inX2 : ∀ w ∈ u_ws RX2 TX2 11, w ∈ TW := in_of [412, 414, 416, 418, 420, 422, 424, 426, 428, 430, 432] (by decide +kernel) (by decide +kernel)
set_option maxRecDepth 20000 in
theorem dfX2 : ∀ j, j < 11 → defaultValue (tyX2 j) = vp_V [.int 0, .int 0, .int 0, .int 0, .int 0, .int 0, .int 0, .int 0, .int 0, .int 0, .int 0] j := by decide +kernel
set_option maxRecDepth 20000 in
theorem inX3 : ∀ w ∈ u_ws RX3 TX3 17, w ∈ TW := in_of [636, 638, 640, 642, 644, 646, 648, 650, 652, 654, 656, 658, 660, 662, 664, 666, 668] (by decide +kernel) (by decide +kernel)
set_option maxRecDepth 20000 in
theorem dfX3 : ∀ j, j < 17 → defaultValue (tyX3 j) = vp_V [.null, .null, .int 0, .null, .null, .null, .int 0, .null, .null, .int 0, .null, .null, .int 0, .null, .null, .null, .int 0] j := by decide +kernel
set_option maxRecDepth 20000 in
theorem inX4 : ∀ w ∈ u_ws RX4 TX4 2, w ∈ TW := in_of [505, 507] (by decide +kernel) (by decide +kernel)
set_option maxRecDepth 20000 in
theorem dfX4 : ∀ j, j < 2 → defaultValue (tyX4 j) = vp_V [.null, .int 0] j := by decide +kernel
set_option maxRecDepth 20000 in
theorem inX5 : ∀ w ∈ u_ws RX5 TX5 7, w ∈ TW := in_of [602, 604, 606, 608, 610, 612, 614] (by decide +kernel) (by decide +kernel)
set_option maxRecDepth 20000 in
theorem dfX5 : ∀ j, j < 7 → defaultValue (tyX5 j) = vp_V [.int 0, .int 0, .null, .null, .null, .null, .null] j := by decide +kernel
set_option maxRecDepth 20000 in
theorem inX6 : ∀ w ∈ u_ws RX6 TX6 19, w ∈ TW := in_of [456, 458, 460, 462, 464, 466, 468, 470, 472, 474, 476, 478, 480, 482, 484, 486, 488, 490, 492] (by decide +kernel) (by decide +kernel)
set_option maxRecDepth 20000 in
theorem dfX6 : ∀ j, j < 19 → defaultValue (tyX6 j) = vp_V [.int 0, .int 0, .null, .null, .null, .null, .null, .null, .int 0, .null, .int 0, .null, .null, .int 0, .int 0, .null, .null, .null, .int 0] j := by decide +kernel
set_option maxRecDepth 20000 in
theorem inX7 : ∀ w ∈ u_ws RX7 TX7 4, w ∈ TW := in_of [287, 289, 291, 293] (by decide +kernel) (by decide +kernel)
set_option maxRecDepth 20000 in
theorem dfX7 : ∀ j, j < 4 → defaultValue (tyX7 j) = vp_V [.null, .int 0, .int 0, .int 0] j := by decide +kernel
set_option maxRecDepth 20000 in
theorem inX8 : ∀ w ∈ u_ws RX8 TX8 12, w ∈ TW := in_of [774, 776, 778, 780, 782, 784, 786, 788, 790, 792, 794, 796] (by decide +kernel) (by decide +kernel)
set_option maxRecDepth 20000 in
theorem dfX8 : ∀ j, j < 12 → defaultValue (tyX8 j) = vp_V [.null, .null, .null, .int 0, .int 0, .null, .int 0, .null, .null, .null, .int 0, .int 0] j := by decide +kernel
set_option maxRecDepth 20000 in
theorem inX9 : ∀ w ∈ u_ws RX9 TX9 18, w ∈ TW := in_of [720, 722, 724, 726, 728, 730, 732, 734, 736, 738, 740, 742, 744, 746, 748, 750, 752, 754] (by decide +kernel) (by decide +kernel)
set_option maxRecDepth 20000 in
theorem dfX9 : ∀ j, j < 18 → defaultValue (tyX9 j) = vp_V [.int 0, .null, .int 0, .null, .null, .null, .null, .null, .int 0, .null, .int 0, .int 0, .null, .null, .null, .null, .null, .null] j := by decide +kernel
set_option maxRecDepth 20000 in
theorem inX10 : ∀ w ∈ u_ws RX10 TX10 20, w ∈ TW := in_of [343, 345, 347, 349, 351, 353, 355, 357, 359, 361, 363, 365, 367, 369, 371, 373, 375, 377, 379, 381] (by decide +kernel) (by decide +kernel)
set_option maxRecDepth 20000 in
theorem dfX10 : ∀ j, j < 20 → defaultValue (tyX10 j) = vp_V [.int 0, .int 0, .int 0, .int 0, .null, .null, .null, .null, .null, .null, .null, .null, .null, .null, .null, .null, .null, .null, .null, .null] j := by decide +kernel
set_option maxRecDepth 20000 in
theorem inX11 : ∀ w ∈ u_ws RX11 TX11 18, w ∈ TW := in_of [818, 820, 822, 824, 826, 828, 830, 832, 834, 836, 838, 840, 842, 844, 846, 848, 850, 852] (by decide +kernel) (by decide +kernel)
set_option maxRecDepth 20000 in
theorem dfX11 : ∀ j, j < 18 → defaultValue (tyX11 j) = vp_V [.null, .null, .null, .null, .int 0, .null, .null, .null, .null, .null, .null, .null, .null, .int 0, .int 0, .int 0, .int 0, .int 0] j := by decide +kernel
set_option maxRecDepth 20000 in
theorem inX12 : ∀ w ∈ u_ws RX12 TX12 143, w ∈ TW := in_of [2283, 2285, 2287, 2289, 2291, 2293, 2295, 2297, 2299, 2301, 2303, 2305, 2307, 2309, 2311, 2313, 2315, 2317, 2319, 2321, 2323, 2325, 2327, 2329, 2331, 2333, 2335, 2337, 2339, 2341, 2343, 2345, 2347, 2349, 2351, 2353, 2355, 2357, 2359, 2361, 2363, 2365, 2367, 2369, 2371, 2373, 2375, 2377, 2379, 2381, 2383, 2385, 2387, 2389, 2391, 2393, 2395, 2397, 2399, 2401, 2403, 2405, 2407, 2409, 2411, 2413, 2415, 2417, 2419, 2421, 2423, 2425, 2427, 2429, 2431, 2433, 2435, 2437, 2439, 2441, 2443, 2445, 2447, 2449, 2451, 2453, 2455, 2457, 2459, 2461, 2463, 2465, 2467, 2469, 2471, 2473, 2475, 2477, 2479, 2481, 2483, 2485, 2487, 2489, 2491, 2493, 2495, 2497, 2499, 2501, 2503, 2505, 2507, 2509, 2511, 2513, 2515, 2517, 2519, 2521, 2523, 2525, 2527, 2529, 2531, 2533, 2535, 2537, 2539, 2541, 2543, 2545, 2547, 2549, 2551, 2553, 2555, 2557, 2559, 2561, 2563, 2565, 2567] (by decide +kernel) (by decide +kernel)
set_option maxRecDepth 20000 in
theorem dfX12 : ∀ j, j < 143 → defaultValue (tyX12 j) = vp_V [.int 0, .int 0, .null, .int 0, .int 0, .null, .null, .null, .null, .null, .null, .null, .null, .null, .null, .null, .null, .null, .null, .null, .null, .null, .null, .null, .null, .null, .null, .null, .null, .null, .null, .int 0, .null, .null, .int 0, .int 0, .int 0, .int 0, .int 0, .int 0, .null, .int 0, .null, .null, .null, .null, .null, .null, .null, .null, .int 0, .int 0, .int 0, .int 0, .null, .null, .null, .int 0, .null, .int 0, .null, .int 0, .int 0, .null, .null, .null, .int 0, .null, .null, .null, .null, .null, .null, .null, .int 0, .null, .int 0, .null, .null, .null, .int 0, .null, .null, .null, .null, .int 0, .null, .null, .null, .null, .int 0, .int 0, .int 0, .int 0, .int 0, .int 0, .int 0, .int 0, .int 0, .null, .int 0, .null, .int 0, .int 0, .int 0, .int 0, .int 0, .null, .int 0, .int 0, .null, .int 0, .null, .int 0, .null, .null, .int 0, .null, .null, .null, .null, .long 0, .int 0, .null, .null, .null, .null, .null, .null, .null, .null, .null, .null, .null, .null, .null, .null, .null, .int 0, .null, .null, .null, .int 0] j := by decide +kernel
