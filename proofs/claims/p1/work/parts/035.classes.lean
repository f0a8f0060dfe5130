/-! the classes whose objects the worlds hold: names, fields, types (out of the printed names) -/
def RJ0 : String := "java/lang/String"
def TJ0 : u_T := fun k => match k with
  | 0 => ("java/lang/String", "value", "[B", true)
  | _ => ("java/lang/String", "coder", "B", true)
def tyJ0 : Nat → FieldType := fun k => match k with
  | 0 => .array .byte
  | _ => .byte
theorem nmJ0 : ∀ a, a < 2 → ∀ b, b < 2 → a ≠ b → (TJ0 a).2.1 ≠ (TJ0 b).2.1 := by decide +kernel
theorem tyJ0_ok : ∀ k, k < 2 → parseFieldDescriptor (TJ0 k).2.2.1 = some (tyJ0 k) := by decide +kernel
def RJ6 : String := "java/lang/Integer"
def TJ6 : u_T := fun k => match k with
  | _ => ("java/lang/Integer", "value", "I", true)
def tyJ6 : Nat → FieldType := fun k => match k with
  | _ => .int
theorem nmJ6 : ∀ a, a < 1 → ∀ b, b < 1 → a ≠ b → (TJ6 a).2.1 ≠ (TJ6 b).2.1 := by decide +kernel
theorem tyJ6_ok : ∀ k, k < 1 → parseFieldDescriptor (TJ6 k).2.2.1 = some (tyJ6 k) := by decide +kernel
def RJx00060 : String := "java/lang/ArrayIndexOutOfBoundsException"
def TJx00060 : u_T := fun k => match k with
  | 0 => ("java/lang/Throwable", "backtrace", "Ljava/lang/Object;", false)
  | 1 => ("java/lang/Throwable", "detailMessage", "Ljava/lang/String;", false)
  | 2 => ("java/lang/Throwable", "cause", "Ljava/lang/Throwable;", false)
  | 3 => ("java/lang/Throwable", "stackTrace", "[Ljava/lang/StackTraceElement;", false)
  | 4 => ("java/lang/Throwable", "depth", "I", false)
  | _ => ("java/lang/Throwable", "suppressedExceptions", "Ljava/util/List;", false)
def tyJx00060 : Nat → FieldType := fun k => match k with
  | 0 => .object "java/lang/Object"
  | 1 => .object "java/lang/String"
  | 2 => .object "java/lang/Throwable"
  | 3 => .array (.object "java/lang/StackTraceElement")
  | 4 => .int
  | _ => .object "java/util/List"
theorem nmJx00060 : ∀ a, a < 6 → ∀ b, b < 6 → a ≠ b → (TJx00060 a).2.1 ≠ (TJx00060 b).2.1 := by decide +kernel
theorem tyJx00060_ok : ∀ k, k < 6 → parseFieldDescriptor (TJx00060 k).2.2.1 = some (tyJx00060 k) := by decide +kernel
def RJx35411 : String := "java/util/ArrayList$Itr"
def TJx35411 : u_T := fun k => match k with
  | 0 => ("java/util/ArrayList$Itr", "cursor", "I", false)
  | 1 => ("java/util/ArrayList$Itr", "lastRet", "I", false)
  | 2 => ("java/util/ArrayList$Itr", "expectedModCount", "I", false)
  | _ => ("java/util/ArrayList$Itr", "this$0", "Ljava/util/ArrayList;", true)
def tyJx35411 : Nat → FieldType := fun k => match k with
  | 0 => .int
  | 1 => .int
  | 2 => .int
  | _ => .object "java/util/ArrayList"
theorem nmJx35411 : ∀ a, a < 4 → ∀ b, b < 4 → a ≠ b → (TJx35411 a).2.1 ≠ (TJx35411 b).2.1 := by decide +kernel
theorem tyJx35411_ok : ∀ k, k < 4 → parseFieldDescriptor (TJx35411 k).2.2.1 = some (tyJx35411 k) := by decide +kernel
def RJx4a65c : String := "java/util/ArrayList"
def TJx4a65c : u_T := fun k => match k with
  | 0 => ("java/util/AbstractList", "modCount", "I", false)
  | 1 => ("java/util/ArrayList", "elementData", "[Ljava/lang/Object;", false)
  | _ => ("java/util/ArrayList", "size", "I", false)
def tyJx4a65c : Nat → FieldType := fun k => match k with
  | 0 => .int
  | 1 => .array (.object "java/lang/Object")
  | _ => .int
theorem nmJx4a65c : ∀ a, a < 3 → ∀ b, b < 3 → a ≠ b → (TJx4a65c a).2.1 ≠ (TJx4a65c b).2.1 := by decide +kernel
theorem tyJx4a65c_ok : ∀ k, k < 3 → parseFieldDescriptor (TJx4a65c k).2.2.1 = some (tyJx4a65c k) := by decide +kernel
def RX0 : String := "Locihall$Contest"
def TX0 : u_T := fun k => match k with
  | 0 => ("Locihall$Contest", "isOpen", "Z", false)
  | 1 => ("Locihall$Contest", "year", "I", false)
  | 2 => ("Locihall$Contest", "house", "LLocihall$Palace;", false)
  | 3 => ("Locihall$Contest", "table", "LLocihall$Table;", false)
  | 4 => ("Locihall$Contest", "count", "I", false)
  | 5 => ("Locihall$Contest", "drawnKeys", "[I", true)
  | 6 => ("Locihall$Contest", "draft", "[I", true)
  | 7 => ("Locihall$Contest", "given", "I", false)
  | 8 => ("Locihall$Contest", "answers", "[I", true)
  | 9 => ("Locihall$Contest", "times", "[I", true)
  | 10 => ("Locihall$Contest", "rights", "[Z", true)
  | 11 => ("Locihall$Contest", "appeals", "I", false)
  | 12 => ("Locihall$Contest", "closedCount", "I", false)
  | 13 => ("Locihall$Contest", "closedYear", "I", false)
  | 14 => ("Locihall$Contest", "closedScore", "I", false)
  | 15 => ("Locihall$Contest", "closedYears", "[I", true)
  | _ => ("Locihall$Contest", "closedScores", "[I", true)
def tyX0 : Nat → FieldType := fun k => match k with
  | 0 => .boolean
  | 1 => .int
  | 2 => .object "Locihall$Palace"
  | 3 => .object "Locihall$Table"
  | 4 => .int
  | 5 => .array .int
  | 6 => .array .int
  | 7 => .int
  | 8 => .array .int
  | 9 => .array .int
  | 10 => .array .boolean
  | 11 => .int
  | 12 => .int
  | 13 => .int
  | 14 => .int
  | 15 => .array .int
  | _ => .array .int
theorem nmX0 : ∀ a, a < 17 → ∀ b, b < 17 → a ≠ b → (TX0 a).2.1 ≠ (TX0 b).2.1 := by decide +kernel
theorem tyX0_ok : ∀ k, k < 17 → parseFieldDescriptor (TX0 k).2.2.1 = some (tyX0 k) := by decide +kernel
def RX1 : String := "Locihall$Facts"
def TX1 : u_T := fun k => match k with
  | 0 => ("Locihall$Facts", "eases", "[I", true)
  | 1 => ("Locihall$Facts", "strengths", "[I", true)
  | 2 => ("Locihall$Facts", "lasts", "[I", true)
  | 3 => ("Locihall$Facts", "lapses", "[I", true)
  | 4 => ("Locihall$Facts", "count", "I", false)
  | 5 => ("Locihall$Facts", "tried", "[I", true)
  | 6 => ("Locihall$Facts", "bestPlan", "[I", true)
  | 7 => ("Locihall$Facts", "bestStrengths", "I", false)
  | _ => ("Locihall$Facts", "bestReviews", "I", false)
def tyX1 : Nat → FieldType := fun k => match k with
  | 0 => .array .int
  | 1 => .array .int
  | 2 => .array .int
  | 3 => .array .int
  | 4 => .int
  | 5 => .array .int
  | 6 => .array .int
  | 7 => .int
  | _ => .int
theorem nmX1 : ∀ a, a < 9 → ∀ b, b < 9 → a ≠ b → (TX1 a).2.1 ≠ (TX1 b).2.1 := by decide +kernel
theorem tyX1_ok : ∀ k, k < 9 → parseFieldDescriptor (TX1 k).2.2.1 = some (tyX1 k) := by decide +kernel
def RX2 : String := "Locihall$Images"
def TX2 : u_T := fun k => match k with
  | 0 => ("Locihall$Images", "kinds", "[I", true)
  | 1 => ("Locihall$Images", "vividnesses", "[I", true)
  | _ => ("Locihall$Images", "count", "I", false)
def tyX2 : Nat → FieldType := fun k => match k with
  | 0 => .array .int
  | 1 => .array .int
  | _ => .int
theorem nmX2 : ∀ a, a < 3 → ∀ b, b < 3 → a ≠ b → (TX2 a).2.1 ≠ (TX2 b).2.1 := by decide +kernel
theorem tyX2_ok : ∀ k, k < 3 → parseFieldDescriptor (TX2 k).2.2.1 = some (tyX2 k) := by decide +kernel
def RX3 : String := "Locihall$Locus"
def TX3 : u_T := fun k => match k with
  | 0 => ("Locihall$Locus", "power", "I", true)
  | 1 => ("Locihall$Locus", "pile", "[LLocihall$Trace;", true)
  | 2 => ("Locihall$Locus", "height", "I", false)
  | _ => ("Locihall$Locus", "hasCue", "Z", false)
def tyX3 : Nat → FieldType := fun k => match k with
  | 0 => .int
  | 1 => .array (.object "Locihall$Trace")
  | 2 => .int
  | _ => .boolean
theorem nmX3 : ∀ a, a < 4 → ∀ b, b < 4 → a ≠ b → (TX3 a).2.1 ≠ (TX3 b).2.1 := by decide +kernel
theorem tyX3_ok : ∀ k, k < 4 → parseFieldDescriptor (TX3 k).2.2.1 = some (tyX3 k) := by decide +kernel
def RX4 : String := "Locihall$Mind"
def TX4 : u_T := fun k => match k with
  | 0 => ("Locihall$Mind", "images", "LLocihall$Images;", true)
  | 1 => ("Locihall$Mind", "palaces", "[LLocihall$Palace;", true)
  | 2 => ("Locihall$Mind", "palaceCount", "I", false)
  | 3 => ("Locihall$Mind", "hour", "I", false)
  | 4 => ("Locihall$Mind", "years", "I", false)
  | _ => ("Locihall$Mind", "sleptTo", "I", false)
def tyX4 : Nat → FieldType := fun k => match k with
  | 0 => .object "Locihall$Images"
  | 1 => .array (.object "Locihall$Palace")
  | 2 => .int
  | 3 => .int
  | 4 => .int
  | _ => .int
theorem nmX4 : ∀ a, a < 6 → ∀ b, b < 6 → a ≠ b → (TX4 a).2.1 ≠ (TX4 b).2.1 := by decide +kernel
theorem tyX4_ok : ∀ k, k < 6 → parseFieldDescriptor (TX4 k).2.2.1 = some (tyX4 k) := by decide +kernel
def RX5 : String := "Locihall$Palace"
def TX5 : u_T := fun k => match k with
  | 0 => ("Locihall$Palace", "loci", "[LLocihall$Locus;", true)
  | 1 => ("Locihall$Palace", "count", "I", false)
  | 2 => ("Locihall$Palace", "groupSize", "I", false)
  | 3 => ("Locihall$Palace", "groupedLoci", "I", false)
  | _ => ("Locihall$Palace", "sums", "[I", true)
def tyX5 : Nat → FieldType := fun k => match k with
  | 0 => .array (.object "Locihall$Locus")
  | 1 => .int
  | 2 => .int
  | 3 => .int
  | _ => .array .int
theorem nmX5 : ∀ a, a < 5 → ∀ b, b < 5 → a ≠ b → (TX5 a).2.1 ≠ (TX5 b).2.1 := by decide +kernel
theorem tyX5_ok : ∀ k, k < 5 → parseFieldDescriptor (TX5 k).2.2.1 = some (tyX5 k) := by decide +kernel
def RX6 : String := "Locihall$Stage"
def TX6 : u_T := fun k => match k with
  | 0 => ("Locihall$Stage", "lengths", "[I", true)
  | 1 => ("Locihall$Stage", "nexts", "[I", true)
  | 2 => ("Locihall$Stage", "count", "I", false)
  | 3 => ("Locihall$Stage", "going", "[I", true)
  | 4 => ("Locihall$Stage", "depth", "I", false)
  | 5 => ("Locihall$Stage", "isInterrupted", "Z", false)
  | _ => ("Locihall$Stage", "stoppedAt", "I", false)
def tyX6 : Nat → FieldType := fun k => match k with
  | 0 => .array .int
  | 1 => .array .int
  | 2 => .int
  | 3 => .array .int
  | 4 => .int
  | 5 => .boolean
  | _ => .int
theorem nmX6 : ∀ a, a < 7 → ∀ b, b < 7 → a ≠ b → (TX6 a).2.1 ≠ (TX6 b).2.1 := by decide +kernel
theorem tyX6_ok : ∀ k, k < 7 → parseFieldDescriptor (TX6 k).2.2.1 = some (tyX6 k) := by decide +kernel
def RX7 : String := "Locihall$Table"
def TX7 : u_T := fun k => match k with
  | 0 => ("Locihall$Table", "keysAtLocus", "I", true)
  | 1 => ("Locihall$Table", "imageByKey", "[I", true)
  | 2 => ("Locihall$Table", "skillByKey", "[I", true)
  | _ => ("Locihall$Table", "trial", "[I", true)
def tyX7 : Nat → FieldType := fun k => match k with
  | 0 => .int
  | 1 => .array .int
  | 2 => .array .int
  | _ => .array .int
theorem nmX7 : ∀ a, a < 4 → ∀ b, b < 4 → a ≠ b → (TX7 a).2.1 ≠ (TX7 b).2.1 := by decide +kernel
theorem tyX7_ok : ∀ k, k < 4 → parseFieldDescriptor (TX7 k).2.2.1 = some (tyX7 k) := by decide +kernel
def RX8 : String := "Locihall$Tongues"
def TX8 : u_T := fun k => match k with
  | _ => ("Locihall$Tongues", "letters", "[[I", true)
def tyX8 : Nat → FieldType := fun k => match k with
  | _ => .array (.array .int)
theorem nmX8 : ∀ a, a < 1 → ∀ b, b < 1 → a ≠ b → (TX8 a).2.1 ≠ (TX8 b).2.1 := by decide +kernel
theorem tyX8_ok : ∀ k, k < 1 → parseFieldDescriptor (TX8 k).2.2.1 = some (tyX8 k) := by decide +kernel
def RX9 : String := "Locihall$Trace"
def TX9 : u_T := fun k => match k with
  | 0 => ("Locihall$Trace", "laidKeys", "[I", true)
  | 1 => ("Locihall$Trace", "laidKinds", "[I", true)
  | 2 => ("Locihall$Trace", "count", "I", false)
  | 3 => ("Locihall$Trace", "firstImage", "I", false)
  | 4 => ("Locihall$Trace", "table", "LLocihall$Table;", false)
  | 5 => ("Locihall$Trace", "since", "I", false)
  | 6 => ("Locihall$Trace", "firmness", "I", false)
  | _ => ("Locihall$Trace", "isSuggested", "Z", false)
def tyX9 : Nat → FieldType := fun k => match k with
  | 0 => .array .int
  | 1 => .array .int
  | 2 => .int
  | 3 => .int
  | 4 => .object "Locihall$Table"
  | 5 => .int
  | 6 => .int
  | _ => .boolean
theorem nmX9 : ∀ a, a < 8 → ∀ b, b < 8 → a ≠ b → (TX9 a).2.1 ≠ (TX9 b).2.1 := by decide +kernel
theorem tyX9_ok : ∀ k, k < 8 → parseFieldDescriptor (TX9 k).2.2.1 = some (tyX9 k) := by decide +kernel
def RX10 : String := "Locihall$YearRows"
def TX10 : u_T := fun k => match k with
  | 0 => ("Locihall$YearRows", "years", "[I", true)
  | 1 => ("Locihall$YearRows", "firsts", "[I", true)
  | 2 => ("Locihall$YearRows", "seconds", "[I", true)
  | _ => ("Locihall$YearRows", "count", "I", false)
def tyX10 : Nat → FieldType := fun k => match k with
  | 0 => .array .int
  | 1 => .array .int
  | 2 => .array .int
  | _ => .int
theorem nmX10 : ∀ a, a < 4 → ∀ b, b < 4 → a ≠ b → (TX10 a).2.1 ≠ (TX10 b).2.1 := by decide +kernel
theorem tyX10_ok : ∀ k, k < 4 → parseFieldDescriptor (TX10 k).2.2.1 = some (tyX10 k) := by decide +kernel
def RX11 : String := "Locihall"
def TX11 : u_T := fun k => match k with
  | 0 => ("Locihall", "images", "LLocihall$Images;", true)
  | 1 => ("Locihall", "tongues", "LLocihall$Tongues;", true)
  | 2 => ("Locihall", "tables", "[LLocihall$Table;", true)
  | 3 => ("Locihall", "tableCount", "I", false)
  | 4 => ("Locihall", "mind", "LLocihall$Mind;", true)
  | 5 => ("Locihall", "nextKeys", "[I", true)
  | 6 => ("Locihall", "nextKeyCount", "I", false)
  | 7 => ("Locihall", "books", "LLocihall$YearRows;", true)
  | 8 => ("Locihall", "standards", "LLocihall$YearRows;", true)
  | 9 => ("Locihall", "match", "LLocihall$Contest;", true)
  | 10 => ("Locihall", "stage", "LLocihall$Stage;", true)
  | 11 => ("Locihall", "facts", "LLocihall$Facts;", true)
  | _ => ("Locihall", "tenthsInAll", "J", false)
def tyX11 : Nat → FieldType := fun k => match k with
  | 0 => .object "Locihall$Images"
  | 1 => .object "Locihall$Tongues"
  | 2 => .array (.object "Locihall$Table")
  | 3 => .int
  | 4 => .object "Locihall$Mind"
  | 5 => .array .int
  | 6 => .int
  | 7 => .object "Locihall$YearRows"
  | 8 => .object "Locihall$YearRows"
  | 9 => .object "Locihall$Contest"
  | 10 => .object "Locihall$Stage"
  | 11 => .object "Locihall$Facts"
  | _ => .long
theorem nmX11 : ∀ a, a < 13 → ∀ b, b < 13 → a ≠ b → (TX11 a).2.1 ≠ (TX11 b).2.1 := by decide +kernel
theorem tyX11_ok : ∀ k, k < 13 → parseFieldDescriptor (TX11 k).2.2.1 = some (tyX11 k) := by decide +kernel
def RX12 : String := "LocihallModel$Locus"
def TX12 : u_T := fun k => match k with
  | 0 => ("LocihallModel$Locus", "strength", "I", true)
  | 1 => ("LocihallModel$Locus", "traces", "Ljava/util/List;", true)
  | _ => ("LocihallModel$Locus", "cue", "Z", false)
def tyX12 : Nat → FieldType := fun k => match k with
  | 0 => .int
  | 1 => .object "java/util/List"
  | _ => .boolean
theorem nmX12 : ∀ a, a < 3 → ∀ b, b < 3 → a ≠ b → (TX12 a).2.1 ≠ (TX12 b).2.1 := by decide +kernel
theorem tyX12_ok : ∀ k, k < 3 → parseFieldDescriptor (TX12 k).2.2.1 = some (tyX12 k) := by decide +kernel
def RX13 : String := "LocihallModel$Palace"
def TX13 : u_T := fun k => match k with
  | 0 => ("LocihallModel$Palace", "loci", "Ljava/util/List;", true)
  | 1 => ("LocihallModel$Palace", "size", "I", false)
  | 2 => ("LocihallModel$Palace", "grouped", "I", false)
  | _ => ("LocihallModel$Palace", "sums", "[I", false)
def tyX13 : Nat → FieldType := fun k => match k with
  | 0 => .object "java/util/List"
  | 1 => .int
  | 2 => .int
  | _ => .array .int
theorem nmX13 : ∀ a, a < 4 → ∀ b, b < 4 → a ≠ b → (TX13 a).2.1 ≠ (TX13 b).2.1 := by decide +kernel
theorem tyX13_ok : ∀ k, k < 4 → parseFieldDescriptor (TX13 k).2.2.1 = some (tyX13 k) := by decide +kernel
def RX14 : String := "LocihallModel$Trace"
def TX14 : u_T := fun k => match k with
  | 0 => ("LocihallModel$Trace", "system", "I", true)
  | 1 => ("LocihallModel$Trace", "keys", "[I", true)
  | 2 => ("LocihallModel$Trace", "images", "[I", true)
  | 3 => ("LocihallModel$Trace", "suggested", "Z", true)
  | 4 => ("LocihallModel$Trace", "hold", "I", false)
  | 5 => ("LocihallModel$Trace", "hour", "I", false)
  | _ => ("LocihallModel$Trace", "fresh", "Z", false)
def tyX14 : Nat → FieldType := fun k => match k with
  | 0 => .int
  | 1 => .array .int
  | 2 => .array .int
  | 3 => .boolean
  | 4 => .int
  | 5 => .int
  | _ => .boolean
theorem nmX14 : ∀ a, a < 7 → ∀ b, b < 7 → a ≠ b → (TX14 a).2.1 ≠ (TX14 b).2.1 := by decide +kernel
theorem tyX14_ok : ∀ k, k < 7 → parseFieldDescriptor (TX14 k).2.2.1 = some (tyX14 k) := by decide +kernel
def RX15 : String := "LocihallModel"
def TX15 : u_T := fun k => match k with
  | 0 => ("LocihallModel", "images", "Ljava/util/List;", true)
  | 1 => ("LocihallModel", "palaces", "Ljava/util/List;", true)
  | 2 => ("LocihallModel", "buffer", "Ljava/util/List;", true)
  | 3 => ("LocihallModel", "lays", "[I", true)
  | 4 => ("LocihallModel", "table", "[[I", true)
  | 5 => ("LocihallModel", "skills", "[[I", true)
  | 6 => ("LocihallModel", "letters", "[[C", true)
  | 7 => ("LocihallModel", "books", "Ljava/util/List;", true)
  | 8 => ("LocihallModel", "standards", "Ljava/util/List;", true)
  | 9 => ("LocihallModel", "closed", "Ljava/util/List;", true)
  | 10 => ("LocihallModel", "speeches", "Ljava/util/List;", true)
  | 11 => ("LocihallModel", "facts", "Ljava/util/List;", true)
  | 12 => ("LocihallModel", "going", "Ljava/util/List;", true)
  | 13 => ("LocihallModel", "thrown", "I", false)
  | 14 => ("LocihallModel", "systems", "I", false)
  | 15 => ("LocihallModel", "hour", "I", false)
  | 16 => ("LocihallModel", "age", "I", false)
  | 17 => ("LocihallModel", "year", "I", false)
  | 18 => ("LocihallModel", "palaceOf", "I", false)
  | 19 => ("LocihallModel", "systemOf", "I", false)
  | 20 => ("LocihallModel", "appeals", "I", false)
  | 21 => ("LocihallModel", "interruptedAt", "I", false)
  | 22 => ("LocihallModel", "drawn", "[I", false)
  | 23 => ("LocihallModel", "answers", "[I", false)
  | 24 => ("LocihallModel", "times", "[I", false)
  | 25 => ("LocihallModel", "given", "I", false)
  | 26 => ("LocihallModel", "open", "Z", false)
  | _ => ("LocihallModel", "tenths", "J", false)
def tyX15 : Nat → FieldType := fun k => match k with
  | 0 => .object "java/util/List"
  | 1 => .object "java/util/List"
  | 2 => .object "java/util/List"
  | 3 => .array .int
  | 4 => .array (.array .int)
  | 5 => .array (.array .int)
  | 6 => .array (.array .char)
  | 7 => .object "java/util/List"
  | 8 => .object "java/util/List"
  | 9 => .object "java/util/List"
  | 10 => .object "java/util/List"
  | 11 => .object "java/util/List"
  | 12 => .object "java/util/List"
  | 13 => .int
  | 14 => .int
  | 15 => .int
  | 16 => .int
  | 17 => .int
  | 18 => .int
  | 19 => .int
  | 20 => .int
  | 21 => .int
  | 22 => .array .int
  | 23 => .array .int
  | 24 => .array .int
  | 25 => .int
  | 26 => .boolean
  | _ => .long
theorem nmX15 : ∀ a, a < 28 → ∀ b, b < 28 → a ≠ b → (TX15 a).2.1 ≠ (TX15 b).2.1 := by decide +kernel
theorem tyX15_ok : ∀ k, k < 28 → parseFieldDescriptor (TX15 k).2.2.1 = some (tyX15 k) := by decide +kernel
abbrev vwCl : List vw_C := [(RJ0, TJ0, 2), (RJ6, TJ6, 1), (RJx00060, TJx00060, 6), (RJx35411, TJx35411, 4), (RJx4a65c, TJx4a65c, 3), (RX0, TX0, 17), (RX1, TX1, 9), (RX2, TX2, 3), (RX3, TX3, 4), (RX4, TX4, 6), (RX5, TX5, 5), (RX6, TX6, 7), (RX7, TX7, 4), (RX8, TX8, 1), (RX9, TX9, 8), (RX10, TX10, 4), (RX11, TX11, 13), (RX12, TX12, 3), (RX13, TX13, 4), (RX14, TX14, 7), (RX15, TX15, 28)]
