/-! names, decode rows and words that the walked methods need (by program, out of the printed names and tables) -/
def TX0 : u_T := fun k => match k with
  | 0 => ("Sourcewright$Blocks", "code", "LSourcewright$Code;", true)
  | 1 => ("Sourcewright$Blocks", "reading", "LSourcewright$Reading;", true)
  | 2 => ("Sourcewright$Blocks", "isFirst", "[Z", true)
  | 3 => ("Sourcewright$Blocks", "isWalkedTo", "[Z", true)
  | 4 => ("Sourcewright$Blocks", "blockAt", "[I", true)
  | 5 => ("Sourcewright$Blocks", "firsts", "[I", true)
  | 6 => ("Sourcewright$Blocks", "lasts", "[I", true)
  | 7 => ("Sourcewright$Blocks", "many", "[I", true)
  | 8 => ("Sourcewright$Blocks", "stepCounts", "[I", true)
  | 9 => ("Sourcewright$Blocks", "goes", "[I", true)
  | 10 => ("Sourcewright$Blocks", "passes", "[I", true)
  | 11 => ("Sourcewright$Blocks", "tables", "[I", true)
  | 12 => ("Sourcewright$Blocks", "length", "I", false)
  | 13 => ("Sourcewright$Blocks", "count", "I", false)
  | _ => ("Sourcewright$Blocks", "entryBlock", "I", false)
def tyX0 : Nat → FieldType := fun k => match k with
  | 0 => .object "Sourcewright$Code"
  | 1 => .object "Sourcewright$Reading"
  | 2 => .array .boolean
  | 3 => .array .boolean
  | 4 => .array .int
  | 5 => .array .int
  | 6 => .array .int
  | 7 => .array .int
  | 8 => .array .int
  | 9 => .array .int
  | 10 => .array .int
  | 11 => .array .int
  | 12 => .int
  | 13 => .int
  | _ => .int
theorem nmX0 : ∀ a, a < 15 → ∀ b, b < 15 → a ≠ b → (TX0 a).2.1 ≠ (TX0 b).2.1 := by decide +kernel
theorem tyX0_ok : ∀ k, k < 15 → parseFieldDescriptor (TX0 k).2.2.1 = some (tyX0 k) := by decide +kernel
def TX1 : u_T := fun k => match k with
  | 0 => ("Sourcewright$Builder", "code", "LSourcewright$Code;", true)
  | 1 => ("Sourcewright$Builder", "blocks", "LSourcewright$Blocks;", true)
  | 2 => ("Sourcewright$Builder", "life", "LSourcewright$Life;", true)
  | 3 => ("Sourcewright$Builder", "tour", "LSourcewright$Tour;", true)
  | 4 => ("Sourcewright$Builder", "result", "LSourcewright$Code;", true)
  | 5 => ("Sourcewright$Builder", "blockPlace", "[I", true)
  | 6 => ("Sourcewright$Builder", "slot", "[I", true)
  | 7 => ("Sourcewright$Builder", "farAt", "[I", true)
  | 8 => ("Sourcewright$Builder", "farTo", "[I", true)
  | 9 => ("Sourcewright$Builder", "callAt", "[I", true)
  | 10 => ("Sourcewright$Builder", "callTo", "[I", true)
  | 11 => ("Sourcewright$Builder", "functionPlace", "[I", true)
  | 12 => ("Sourcewright$Builder", "farCount", "I", false)
  | 13 => ("Sourcewright$Builder", "callCount", "I", false)
  | 14 => ("Sourcewright$Builder", "length", "I", false)
  | _ => ("Sourcewright$Builder", "isTidied", "Z", false)
def tyX1 : Nat → FieldType := fun k => match k with
  | 0 => .object "Sourcewright$Code"
  | 1 => .object "Sourcewright$Blocks"
  | 2 => .object "Sourcewright$Life"
  | 3 => .object "Sourcewright$Tour"
  | 4 => .object "Sourcewright$Code"
  | 5 => .array .int
  | 6 => .array .int
  | 7 => .array .int
  | 8 => .array .int
  | 9 => .array .int
  | 10 => .array .int
  | 11 => .array .int
  | 12 => .int
  | 13 => .int
  | 14 => .int
  | _ => .boolean
theorem nmX1 : ∀ a, a < 16 → ∀ b, b < 16 → a ≠ b → (TX1 a).2.1 ≠ (TX1 b).2.1 := by decide +kernel
theorem tyX1_ok : ∀ k, k < 16 → parseFieldDescriptor (TX1 k).2.2.1 = some (tyX1 k) := by decide +kernel
def TX2 : u_T := fun k => match k with
  | 0 => ("Sourcewright$Code", "row", "[I", true)
  | 1 => ("Sourcewright$Code", "ops", "[I", true)
  | _ => ("Sourcewright$Code", "count", "I", false)
def tyX2 : Nat → FieldType := fun k => match k with
  | 0 => .array .int
  | 1 => .array .int
  | _ => .int
theorem nmX2 : ∀ a, a < 3 → ∀ b, b < 3 → a ≠ b → (TX2 a).2.1 ≠ (TX2 b).2.1 := by decide +kernel
theorem tyX2_ok : ∀ k, k < 3 → parseFieldDescriptor (TX2 k).2.2.1 = some (tyX2 k) := by decide +kernel
def TX3 : u_T := fun k => match k with
  | 0 => ("Sourcewright$Life", "code", "LSourcewright$Code;", true)
  | 1 => ("Sourcewright$Life", "reading", "LSourcewright$Reading;", true)
  | _ => ("Sourcewright$Life", "ahead", "[I", true)
def tyX3 : Nat → FieldType := fun k => match k with
  | 0 => .object "Sourcewright$Code"
  | 1 => .object "Sourcewright$Reading"
  | _ => .array .int
theorem nmX3 : ∀ a, a < 3 → ∀ b, b < 3 → a ≠ b → (TX3 a).2.1 ≠ (TX3 b).2.1 := by decide +kernel
theorem tyX3_ok : ∀ k, k < 3 → parseFieldDescriptor (TX3 k).2.2.1 = some (tyX3 k) := by decide +kernel
def TX4 : u_T := fun k => match k with
  | 0 => ("Sourcewright$Machine", "registers", "[I", true)
  | 1 => ("Sourcewright$Machine", "cells", "[I", true)
  | 2 => ("Sourcewright$Machine", "kept", "[I", true)
  | 3 => ("Sourcewright$Machine", "outs", "[I", true)
  | 4 => ("Sourcewright$Machine", "keptCount", "I", false)
  | 5 => ("Sourcewright$Machine", "outCount", "I", false)
  | 6 => ("Sourcewright$Machine", "stepCount", "I", false)
  | 7 => ("Sourcewright$Machine", "inCount", "I", false)
  | 8 => ("Sourcewright$Machine", "flag", "I", false)
  | _ => ("Sourcewright$Machine", "place", "I", false)
def tyX4 : Nat → FieldType := fun k => match k with
  | 0 => .array .int
  | 1 => .array .int
  | 2 => .array .int
  | 3 => .array .int
  | 4 => .int
  | 5 => .int
  | 6 => .int
  | 7 => .int
  | 8 => .int
  | _ => .int
theorem nmX4 : ∀ a, a < 10 → ∀ b, b < 10 → a ≠ b → (TX4 a).2.1 ≠ (TX4 b).2.1 := by decide +kernel
theorem tyX4_ok : ∀ k, k < 10 → parseFieldDescriptor (TX4 k).2.2.1 = some (tyX4 k) := by decide +kernel
def TX5 : u_T := fun k => match k with
  | 0 => ("Sourcewright$Reading", "code", "LSourcewright$Code;", true)
  | 1 => ("Sourcewright$Reading", "walked", "LSourcewright$Sets;", true)
  | 2 => ("Sourcewright$Reading", "returns", "[Z", true)
  | 3 => ("Sourcewright$Reading", "isEntry", "[Z", true)
  | 4 => ("Sourcewright$Reading", "marks", "[I", true)
  | 5 => ("Sourcewright$Reading", "entries", "[I", true)
  | 6 => ("Sourcewright$Reading", "stack", "[I", true)
  | 7 => ("Sourcewright$Reading", "stackCount", "I", false)
  | 8 => ("Sourcewright$Reading", "length", "I", false)
  | _ => ("Sourcewright$Reading", "count", "I", false)
def tyX5 : Nat → FieldType := fun k => match k with
  | 0 => .object "Sourcewright$Code"
  | 1 => .object "Sourcewright$Sets"
  | 2 => .array .boolean
  | 3 => .array .boolean
  | 4 => .array .int
  | 5 => .array .int
  | 6 => .array .int
  | 7 => .int
  | 8 => .int
  | _ => .int
theorem nmX5 : ∀ a, a < 10 → ∀ b, b < 10 → a ≠ b → (TX5 a).2.1 ≠ (TX5 b).2.1 := by decide +kernel
theorem tyX5_ok : ∀ k, k < 10 → parseFieldDescriptor (TX5 k).2.2.1 = some (tyX5 k) := by decide +kernel
def TX6 : u_T := fun k => match k with
  | 0 => ("Sourcewright$Scribe", "code", "LSourcewright$Code;", true)
  | 1 => ("Sourcewright$Scribe", "blocks", "LSourcewright$Blocks;", true)
  | 2 => ("Sourcewright$Scribe", "ways", "LSourcewright$Ways;", true)
  | 3 => ("Sourcewright$Scribe", "life", "LSourcewright$Life;", true)
  | 4 => ("Sourcewright$Scribe", "tour", "LSourcewright$Tour;", true)
  | 5 => ("Sourcewright$Scribe", "text", "[C", false)
  | 6 => ("Sourcewright$Scribe", "count", "I", false)
  | _ => ("Sourcewright$Scribe", "isTidied", "Z", false)
def tyX6 : Nat → FieldType := fun k => match k with
  | 0 => .object "Sourcewright$Code"
  | 1 => .object "Sourcewright$Blocks"
  | 2 => .object "Sourcewright$Ways"
  | 3 => .object "Sourcewright$Life"
  | 4 => .object "Sourcewright$Tour"
  | 5 => .array .char
  | 6 => .int
  | _ => .boolean
theorem nmX6 : ∀ a, a < 8 → ∀ b, b < 8 → a ≠ b → (TX6 a).2.1 ≠ (TX6 b).2.1 := by decide +kernel
theorem tyX6_ok : ∀ k, k < 8 → parseFieldDescriptor (TX6 k).2.2.1 = some (tyX6 k) := by decide +kernel
def TX7 : u_T := fun k => match k with
  | 0 => ("Sourcewright$Sets", "low", "[J", true)
  | _ => ("Sourcewright$Sets", "high", "[J", true)
def tyX7 : Nat → FieldType := fun k => match k with
  | 0 => .array .long
  | _ => .array .long
theorem nmX7 : ∀ a, a < 2 → ∀ b, b < 2 → a ≠ b → (TX7 a).2.1 ≠ (TX7 b).2.1 := by decide +kernel
theorem tyX7_ok : ∀ k, k < 2 → parseFieldDescriptor (TX7 k).2.2.1 = some (tyX7 k) := by decide +kernel
def TX8 : u_T := fun k => match k with
  | 0 => ("Sourcewright$Shelf", "row", "[C", false)
  | 1 => ("Sourcewright$Shelf", "starts", "[I", true)
  | _ => ("Sourcewright$Shelf", "count", "I", false)
def tyX8 : Nat → FieldType := fun k => match k with
  | 0 => .array .char
  | 1 => .array .int
  | _ => .int
theorem nmX8 : ∀ a, a < 3 → ∀ b, b < 3 → a ≠ b → (TX8 a).2.1 ≠ (TX8 b).2.1 := by decide +kernel
theorem tyX8_ok : ∀ k, k < 3 → parseFieldDescriptor (TX8 k).2.2.1 = some (tyX8 k) := by decide +kernel
def TX9 : u_T := fun k => match k with
  | 0 => ("Sourcewright$Tour", "code", "LSourcewright$Code;", true)
  | 1 => ("Sourcewright$Tour", "blocks", "LSourcewright$Blocks;", true)
  | 2 => ("Sourcewright$Tour", "ways", "LSourcewright$Ways;", true)
  | 3 => ("Sourcewright$Tour", "isNextFirst", "Z", true)
  | 4 => ("Sourcewright$Tour", "stack", "[I", true)
  | 5 => ("Sourcewright$Tour", "stage", "[I", true)
  | 6 => ("Sourcewright$Tour", "meeting", "[I", true)
  | 7 => ("Sourcewright$Tour", "times", "[I", true)
  | 8 => ("Sourcewright$Tour", "top", "I", false)
  | 9 => ("Sourcewright$Tour", "opening", "I", false)
  | 10 => ("Sourcewright$Tour", "block", "I", false)
  | 11 => ("Sourcewright$Tour", "index", "I", false)
  | 12 => ("Sourcewright$Tour", "to", "I", false)
  | _ => ("Sourcewright$Tour", "sign", "C", false)
def tyX9 : Nat → FieldType := fun k => match k with
  | 0 => .object "Sourcewright$Code"
  | 1 => .object "Sourcewright$Blocks"
  | 2 => .object "Sourcewright$Ways"
  | 3 => .boolean
  | 4 => .array .int
  | 5 => .array .int
  | 6 => .array .int
  | 7 => .array .int
  | 8 => .int
  | 9 => .int
  | 10 => .int
  | 11 => .int
  | 12 => .int
  | _ => .char
theorem nmX9 : ∀ a, a < 14 → ∀ b, b < 14 → a ≠ b → (TX9 a).2.1 ≠ (TX9 b).2.1 := by decide +kernel
theorem tyX9_ok : ∀ k, k < 14 → parseFieldDescriptor (TX9 k).2.2.1 = some (tyX9 k) := by decide +kernel
def TX10 : u_T := fun k => match k with
  | 0 => ("Sourcewright$Ways", "blocks", "LSourcewright$Blocks;", true)
  | 1 => ("Sourcewright$Ways", "ahead", "LSourcewright$Sets;", true)
  | 2 => ("Sourcewright$Ways", "without", "LSourcewright$Sets;", true)
  | 3 => ("Sourcewright$Ways", "orders", "[I", true)
  | 4 => ("Sourcewright$Ways", "inOrder", "[I", true)
  | 5 => ("Sourcewright$Ways", "cursor", "[I", true)
  | 6 => ("Sourcewright$Ways", "stack", "[I", true)
  | 7 => ("Sourcewright$Ways", "nearests", "[I", true)
  | 8 => ("Sourcewright$Ways", "arrivals", "[I", true)
  | 9 => ("Sourcewright$Ways", "loops", "[I", true)
  | 10 => ("Sourcewright$Ways", "isLoopHead", "[Z", true)
  | 11 => ("Sourcewright$Ways", "isSeen", "[Z", true)
  | 12 => ("Sourcewright$Ways", "firstMeet", "[I", true)
  | 13 => ("Sourcewright$Ways", "afterMeet", "[I", true)
  | 14 => ("Sourcewright$Ways", "leapCount", "I", false)
  | _ => ("Sourcewright$Ways", "count", "I", false)
def tyX10 : Nat → FieldType := fun k => match k with
  | 0 => .object "Sourcewright$Blocks"
  | 1 => .object "Sourcewright$Sets"
  | 2 => .object "Sourcewright$Sets"
  | 3 => .array .int
  | 4 => .array .int
  | 5 => .array .int
  | 6 => .array .int
  | 7 => .array .int
  | 8 => .array .int
  | 9 => .array .int
  | 10 => .array .boolean
  | 11 => .array .boolean
  | 12 => .array .int
  | 13 => .array .int
  | 14 => .int
  | _ => .int
theorem nmX10 : ∀ a, a < 16 → ∀ b, b < 16 → a ≠ b → (TX10 a).2.1 ≠ (TX10 b).2.1 := by decide +kernel
theorem tyX10_ok : ∀ k, k < 16 → parseFieldDescriptor (TX10 k).2.2.1 = some (tyX10 k) := by decide +kernel
def TX11 : u_T := fun k => match k with
  | 0 => ("Sourcewright", "code", "LSourcewright$Code;", true)
  | 1 => ("Sourcewright", "told", "[I", true)
  | 2 => ("Sourcewright", "toldCount", "I", false)
  | 3 => ("Sourcewright", "inputs", "[I", true)
  | 4 => ("Sourcewright", "inputCount", "I", false)
  | 5 => ("Sourcewright", "isTidy", "Z", false)
  | 6 => ("Sourcewright", "reading", "LSourcewright$Reading;", true)
  | 7 => ("Sourcewright", "division", "LSourcewright$Blocks;", true)
  | 8 => ("Sourcewright", "ways", "LSourcewright$Ways;", true)
  | 9 => ("Sourcewright", "life", "LSourcewright$Life;", true)
  | 10 => ("Sourcewright", "scribe", "LSourcewright$Scribe;", true)
  | 11 => ("Sourcewright", "builder", "LSourcewright$Builder;", true)
  | 12 => ("Sourcewright", "shelf", "LSourcewright$Shelf;", true)
  | 13 => ("Sourcewright", "last", "LSourcewright$Machine;", true)
  | 14 => ("Sourcewright", "forth", "LSourcewright$Machine;", true)
  | 15 => ("Sourcewright", "back", "LSourcewright$Machine;", true)
  | 16 => ("Sourcewright", "isRead", "Z", false)
  | 17 => ("Sourcewright", "studied", "I", false)
  | 18 => ("Sourcewright", "drawn", "I", false)
  | _ => ("Sourcewright", "isBuilt", "Z", false)
def tyX11 : Nat → FieldType := fun k => match k with
  | 0 => .object "Sourcewright$Code"
  | 1 => .array .int
  | 2 => .int
  | 3 => .array .int
  | 4 => .int
  | 5 => .boolean
  | 6 => .object "Sourcewright$Reading"
  | 7 => .object "Sourcewright$Blocks"
  | 8 => .object "Sourcewright$Ways"
  | 9 => .object "Sourcewright$Life"
  | 10 => .object "Sourcewright$Scribe"
  | 11 => .object "Sourcewright$Builder"
  | 12 => .object "Sourcewright$Shelf"
  | 13 => .object "Sourcewright$Machine"
  | 14 => .object "Sourcewright$Machine"
  | 15 => .object "Sourcewright$Machine"
  | 16 => .boolean
  | 17 => .int
  | 18 => .int
  | _ => .boolean
theorem nmX11 : ∀ a, a < 20 → ∀ b, b < 20 → a ≠ b → (TX11 a).2.1 ≠ (TX11 b).2.1 := by decide +kernel
theorem tyX11_ok : ∀ k, k < 20 → parseFieldDescriptor (TX11 k).2.2.1 = some (tyX11 k) := by decide +kernel
def TX13 : u_T := fun k => match k with
  | 0 => ("SourcewrightModel$Reading", "code", "[I", true)
  | 1 => ("SourcewrightModel$Reading", "entries", "Ljava/util/ArrayList;", true)
  | 2 => ("SourcewrightModel$Reading", "isWalked", "[Z", true)
  | _ => ("SourcewrightModel$Reading", "functions", "Ljava/util/ArrayList;", true)
def tyX13 : Nat → FieldType := fun k => match k with
  | 0 => .array .int
  | 1 => .object "java/util/ArrayList"
  | 2 => .array .boolean
  | _ => .object "java/util/ArrayList"
theorem nmX13 : ∀ a, a < 4 → ∀ b, b < 4 → a ≠ b → (TX13 a).2.1 ≠ (TX13 b).2.1 := by decide +kernel
theorem tyX13_ok : ∀ k, k < 4 → parseFieldDescriptor (TX13 k).2.2.1 = some (tyX13 k) := by decide +kernel
def TX14 : u_T := fun k => match k with
  | 0 => ("SourcewrightModel$Run", "end", "C", false)
  | 1 => ("SourcewrightModel$Run", "steps", "I", false)
  | _ => ("SourcewrightModel$Run", "out", "Ljava/util/ArrayList;", true)
def tyX14 : Nat → FieldType := fun k => match k with
  | 0 => .char
  | 1 => .int
  | _ => .object "java/util/ArrayList"
theorem nmX14 : ∀ a, a < 3 → ∀ b, b < 3 → a ≠ b → (TX14 a).2.1 ≠ (TX14 b).2.1 := by decide +kernel
theorem tyX14_ok : ∀ k, k < 3 → parseFieldDescriptor (TX14 k).2.2.1 = some (tyX14 k) := by decide +kernel
def TX15 : u_T := fun k => match k with
  | 0 => ("SourcewrightModel$Writer", "in", "LSourcewrightModel$Reading;", true)
  | 1 => ("SourcewrightModel$Writer", "isTidy", "Z", true)
  | 2 => ("SourcewrightModel$Writer", "made", "Ljava/util/ArrayList;", true)
  | 3 => ("SourcewrightModel$Writer", "places", "[[I", true)
  | 4 => ("SourcewrightModel$Writer", "function", "LSourcewrightModel$Function;", false)
  | _ => ("SourcewrightModel$Writer", "number", "I", false)
def tyX15 : Nat → FieldType := fun k => match k with
  | 0 => .object "SourcewrightModel$Reading"
  | 1 => .boolean
  | 2 => .object "java/util/ArrayList"
  | 3 => .array (.array .int)
  | 4 => .object "SourcewrightModel$Function"
  | _ => .int
theorem nmX15 : ∀ a, a < 6 → ∀ b, b < 6 → a ≠ b → (TX15 a).2.1 ≠ (TX15 b).2.1 := by decide +kernel
theorem tyX15_ok : ∀ k, k < 6 → parseFieldDescriptor (TX15 k).2.2.1 = some (tyX15 k) := by decide +kernel
def TX16 : u_T := fun k => match k with
  | 0 => ("SourcewrightModel", "thrown", "I", false)
  | 1 => ("SourcewrightModel", "bytes", "Ljava/util/ArrayList;", true)
  | 2 => ("SourcewrightModel", "entries", "Ljava/util/ArrayList;", true)
  | 3 => ("SourcewrightModel", "inputs", "Ljava/util/ArrayList;", true)
  | 4 => ("SourcewrightModel", "kept", "Ljava/util/ArrayList;", true)
  | 5 => ("SourcewrightModel", "isTidy", "Z", false)
  | _ => ("SourcewrightModel", "last", "LSourcewrightModel$Run;", false)
def tyX16 : Nat → FieldType := fun k => match k with
  | 0 => .int
  | 1 => .object "java/util/ArrayList"
  | 2 => .object "java/util/ArrayList"
  | 3 => .object "java/util/ArrayList"
  | 4 => .object "java/util/ArrayList"
  | 5 => .boolean
  | _ => .object "SourcewrightModel$Run"
theorem nmX16 : ∀ a, a < 7 → ∀ b, b < 7 → a ≠ b → (TX16 a).2.1 ≠ (TX16 b).2.1 := by decide +kernel
theorem tyX16_ok : ∀ k, k < 7 → parseFieldDescriptor (TX16 k).2.2.1 = some (tyX16 k) := by decide +kernel
def TJ6 : u_T := fun k => match k with
  | _ => ("java/lang/Integer", "value", "I", true)
def tyJ6 : Nat → FieldType := fun k => match k with
  | _ => .int
theorem nmJ6 : ∀ a, a < 1 → ∀ b, b < 1 → a ≠ b → (TJ6 a).2.1 ≠ (TJ6 b).2.1 := by decide +kernel
theorem tyJ6_ok : ∀ k, k < 1 → parseFieldDescriptor (TJ6 k).2.2.1 = some (tyJ6 k) := by decide +kernel
def TJx4a65c : u_T := fun k => match k with
  | 0 => ("java/util/AbstractList", "modCount", "I", false)
  | 1 => ("java/util/ArrayList", "elementData", "[Ljava/lang/Object;", false)
  | _ => ("java/util/ArrayList", "size", "I", false)
def tyJx4a65c : Nat → FieldType := fun k => match k with
  | 0 => .int
  | 1 => .array (.object "java/lang/Object")
  | _ => .int
theorem nmJx4a65c : ∀ a, a < 3 → ∀ b, b < 3 → a ≠ b → (TJx4a65c a).2.1 ≠ (TJx4a65c b).2.1 := by decide +kernel
theorem tyJx4a65c_ok : ∀ k, k < 3 → parseFieldDescriptor (TJx4a65c k).2.2.1 = some (tyJx4a65c k) := by decide +kernel
def TJx35411 : u_T := fun k => match k with
  | 0 => ("java/util/ArrayList$Itr", "cursor", "I", false)
  | 1 => ("java/util/ArrayList$Itr", "lastRet", "I", false)
  | 2 => ("java/util/ArrayList$Itr", "expectedModCount", "I", false)
  | _ => ("java/util/ArrayList$Itr", "this$0", "Ljava/util/ArrayList;", true)
def tyJx35411 : Nat → FieldType := fun k => match k with
  | 0 => .int
  | 1 => .int
  | 2 => .int
  | _ => .object "java/util/ArrayList"
theorem nmJx35411 : ∀ a, a < 4 → ∀ b, b < 4 → a ≠ b → (TJx35411 a).2.1 ≠ (TJx35411 b).2.1 := by decide +kernel
theorem tyJx35411_ok : ∀ k, k < 4 → parseFieldDescriptor (TJx35411 k).2.2.1 = some (tyJx35411 k) := by decide +kernel
abbrev pz_cl : List vw_C := [("Sourcewright$Blocks", TX0, 15), ("Sourcewright$Builder", TX1, 16), ("Sourcewright$Code", TX2, 3), ("Sourcewright$Life", TX3, 3), ("Sourcewright$Machine", TX4, 10), ("Sourcewright$Reading", TX5, 10), ("Sourcewright$Scribe", TX6, 8), ("Sourcewright$Sets", TX7, 2), ("Sourcewright$Shelf", TX8, 3), ("Sourcewright$Tour", TX9, 14), ("Sourcewright$Ways", TX10, 16), ("Sourcewright", TX11, 20), ("SourcewrightModel$Reading", TX13, 4), ("SourcewrightModel$Run", TX14, 3), ("SourcewrightModel$Writer", TX15, 6), ("SourcewrightModel", TX16, 7), ("java/lang/Integer", TJ6, 1), ("java/util/ArrayList", TJx4a65c, 3), ("java/util/ArrayList$Itr", TJx35411, 4)]
abbrev yJ15_checkIndex_7cf53 : MethodName := { cls := "java/util/Objects", name := "checkIndex", desc := "(II)I" }
abbrev cJ15_checkIndex_7cf53 : ByteArray := prog_57_method_17_code
abbrev yJ3_checkIndex_8e157 : MethodName := { cls := "jdk/internal/util/Preconditions", name := "checkIndex", desc := "(IILjava/util/function/BiFunction;)I" }
abbrev cJ3_checkIndex_8e157 : ByteArray := prog_61_method_11_code
abbrev yJ6_init_d00df : MethodName := { cls := "java/lang/Integer", name := "<init>", desc := "(I)V" }
abbrev cJ6_init_d00df : ByteArray := prog_32_method_23_code
abbrev yJ6_intValue_8abf5 : MethodName := { cls := "java/lang/Integer", name := "intValue", desc := "()I" }
abbrev cJ6_intValue_8abf5 : ByteArray := prog_32_method_27_code
abbrev yJ6_valueOf_2dffe : MethodName := { cls := "java/lang/Integer", name := "valueOf", desc := "(I)Ljava/lang/Integer;" }
abbrev cJ6_valueOf_2dffe : ByteArray := prog_32_method_22_code
abbrev yJ7_copyOf_1904c : MethodName := { cls := "java/util/Arrays", name := "copyOf", desc := "([Ljava/lang/Object;I)[Ljava/lang/Object;" }
abbrev cJ7_copyOf_1904c : ByteArray := prog_52_method_119_code
abbrev yJ7_copyOf_6403c : MethodName := { cls := "java/util/Arrays", name := "copyOf", desc := "([Ljava/lang/Object;ILjava/lang/Class;)[Ljava/lang/Object;" }
abbrev cJ7_copyOf_6403c : ByteArray := prog_52_method_120_code
abbrev yJx35411_checkForComodification_da8c8 : MethodName := { cls := "java/util/ArrayList$Itr", name := "checkForComodification", desc := "()V" }
abbrev cJx35411_checkForComodification_da8c8 : ByteArray := prog_51_method_6_code
abbrev yJx35411_hasNext_aae02 : MethodName := { cls := "java/util/ArrayList$Itr", name := "hasNext", desc := "()Z" }
abbrev cJx35411_hasNext_aae02 : ByteArray := prog_51_method_2_code
abbrev yJx35411_init_45d68 : MethodName := { cls := "java/util/ArrayList$Itr", name := "<init>", desc := "(Ljava/util/ArrayList;)V" }
abbrev cJx35411_init_45d68 : ByteArray := prog_51_method_1_code
abbrev yJx35411_next_0502b : MethodName := { cls := "java/util/ArrayList$Itr", name := "next", desc := "()Ljava/lang/Object;" }
abbrev cJx35411_next_0502b : ByteArray := prog_51_method_3_code
abbrev yJx4a65c_addAll_f0b43 : MethodName := { cls := "java/util/ArrayList", name := "addAll", desc := "(Ljava/util/Collection;)Z" }
abbrev cJx4a65c_addAll_f0b43 : ByteArray := prog_50_method_41_code
abbrev yJx4a65c_add_72be8 : MethodName := { cls := "java/util/ArrayList", name := "add", desc := "(Ljava/lang/Object;[Ljava/lang/Object;I)V" }
abbrev cJx4a65c_add_72be8 : ByteArray := prog_50_method_24_code
abbrev yJx4a65c_add_9ea2d : MethodName := { cls := "java/util/ArrayList", name := "add", desc := "(Ljava/lang/Object;)Z" }
abbrev cJx4a65c_add_9ea2d : ByteArray := prog_50_method_25_code
abbrev yJx4a65c_clear_da8c8 : MethodName := { cls := "java/util/ArrayList", name := "clear", desc := "()V" }
abbrev cJx4a65c_clear_da8c8 : ByteArray := prog_50_method_40_code
abbrev yJx4a65c_elementData_915e3 : MethodName := { cls := "java/util/ArrayList", name := "elementData", desc := "(I)Ljava/lang/Object;" }
abbrev cJx4a65c_elementData_915e3 : ByteArray := prog_50_method_18_code
abbrev yJx4a65c_get_915e3 : MethodName := { cls := "java/util/ArrayList", name := "get", desc := "(I)Ljava/lang/Object;" }
abbrev cJx4a65c_get_915e3 : ByteArray := prog_50_method_20_code
abbrev yJx4a65c_grow_92f84 : MethodName := { cls := "java/util/ArrayList", name := "grow", desc := "(I)[Ljava/lang/Object;" }
abbrev cJx4a65c_grow_92f84 : ByteArray := prog_50_method_6_code
abbrev yJx4a65c_grow_d5877 : MethodName := { cls := "java/util/ArrayList", name := "grow", desc := "()[Ljava/lang/Object;" }
abbrev cJx4a65c_grow_d5877 : ByteArray := prog_50_method_7_code
abbrev yJx4a65c_init_da8c8 : MethodName := { cls := "java/util/ArrayList", name := "<init>", desc := "()V" }
abbrev cJx4a65c_init_da8c8 : ByteArray := prog_50_method_2_code
abbrev yJx4a65c_isEmpty_aae02 : MethodName := { cls := "java/util/ArrayList", name := "isEmpty", desc := "()Z" }
abbrev cJx4a65c_isEmpty_aae02 : ByteArray := prog_50_method_9_code
abbrev yJx4a65c_iterator_32c93 : MethodName := { cls := "java/util/ArrayList", name := "iterator", desc := "()Ljava/util/Iterator;" }
abbrev cJx4a65c_iterator_32c93 : ByteArray := prog_50_method_55_code
abbrev yJx4a65c_size_8abf5 : MethodName := { cls := "java/util/ArrayList", name := "size", desc := "()I" }
abbrev cJx4a65c_size_8abf5 : ByteArray := prog_50_method_8_code
abbrev yJx4a65c_toArray_d5877 : MethodName := { cls := "java/util/ArrayList", name := "toArray", desc := "()[Ljava/lang/Object;" }
abbrev cJx4a65c_toArray_d5877 : ByteArray := prog_50_method_16_code
abbrev yJxa1e45_init_da8c8 : MethodName := { cls := "java/util/AbstractCollection", name := "<init>", desc := "()V" }
abbrev cJxa1e45_init_da8c8 : ByteArray := prog_48_method_1_code
abbrev yJxc12de_init_da8c8 : MethodName := { cls := "java/util/AbstractList", name := "<init>", desc := "()V" }
abbrev cJxc12de_init_da8c8 : ByteArray := prog_49_method_1_code
abbrev yJxd2413_init_da8c8 : MethodName := { cls := "java/lang/Number", name := "<init>", desc := "()V" }
abbrev cJxd2413_init_da8c8 : ByteArray := prog_36_method_1_code
abbrev yL_agree : MethodName := { cls := "SourcewrightLaw", name := "agree", desc := "(LSourcewright;I[J)I" }
abbrev cL_agree : ByteArray := method_35_code
abbrev yL_blocks : MethodName := { cls := "SourcewrightLaw", name := "blocks", desc := "(LSourcewright;I[J)I" }
abbrev cL_blocks : ByteArray := method_15_code
abbrev yL_byteAt : MethodName := { cls := "SourcewrightLaw", name := "byteAt", desc := "(LSourcewright;I[J)I" }
abbrev cL_byteAt : ByteArray := method_5_code
abbrev yL_calls : MethodName := { cls := "SourcewrightLaw", name := "calls", desc := "(LSourcewright;II[J)I" }
abbrev cL_calls : ByteArray := method_14_code
abbrev yL_codeShare : MethodName := { cls := "SourcewrightLaw", name := "codeShare", desc := "(LSourcewright;[D)I" }
abbrev cL_codeShare : ByteArray := method_37_code
abbrev yL_compiled : MethodName := { cls := "SourcewrightLaw", name := "compiled", desc := "(LSourcewright;[J)I" }
abbrev cL_compiled : ByteArray := method_30_code
abbrev yL_compiledByte : MethodName := { cls := "SourcewrightLaw", name := "compiledByte", desc := "(LSourcewright;I[J)I" }
abbrev cL_compiledByte : ByteArray := method_31_code
abbrev yL_depth : MethodName := { cls := "SourcewrightLaw", name := "depth", desc := "(LSourcewright;II[J)I" }
abbrev cL_depth : ByteArray := method_23_code
abbrev yL_entry : MethodName := { cls := "SourcewrightLaw", name := "entry", desc := "(LSourcewright;I[J)I" }
abbrev cL_entry : ByteArray := method_6_code
abbrev yL_entryOf : MethodName := { cls := "SourcewrightLaw", name := "entryOf", desc := "(LSourcewright;I[J)I" }
abbrev cL_entryOf : ByteArray := method_10_code
abbrev yL_first : MethodName := { cls := "SourcewrightLaw", name := "first", desc := "(LSourcewright;II[J)I" }
abbrev cL_first : ByteArray := method_16_code
abbrev yL_functionOf : MethodName := { cls := "SourcewrightLaw", name := "functionOf", desc := "(LSourcewright;I[J)I" }
abbrev cL_functionOf : ByteArray := method_11_code
abbrev yL_input : MethodName := { cls := "SourcewrightLaw", name := "input", desc := "(LSourcewright;I[J)I" }
abbrev cL_input : ByteArray := method_32_code
abbrev yL_isHead : MethodName := { cls := "SourcewrightLaw", name := "isHead", desc := "(LSourcewright;II[J)I" }
abbrev cL_isHead : ByteArray := method_22_code
abbrev yL_isIdle : MethodName := { cls := "SourcewrightLaw", name := "isIdle", desc := "(LSourcewright;II[J)I" }
abbrev cL_isIdle : ByteArray := method_27_code
abbrev yL_isInDoubt : MethodName := { cls := "SourcewrightLaw", name := "isInDoubt", desc := "(LSourcewright;I[J)I" }
abbrev cL_isInDoubt : ByteArray := method_8_code
abbrev yL_isMeeting : MethodName := { cls := "SourcewrightLaw", name := "isMeeting", desc := "(LSourcewright;II[J)I" }
abbrev cL_isMeeting : ByteArray := method_24_code
abbrev yL_kind : MethodName := { cls := "SourcewrightLaw", name := "kind", desc := "(LSourcewright;I[J)I" }
abbrev cL_kind : ByteArray := method_7_code
abbrev cL_law : ByteArray := code
abbrev yL_leaps : MethodName := { cls := "SourcewrightLaw", name := "leaps", desc := "(LSourcewright;I[J)I" }
abbrev cL_leaps : ByteArray := method_25_code
abbrev yL_length : MethodName := { cls := "SourcewrightLaw", name := "length", desc := "(LSourcewright;I[J)I" }
abbrev cL_length : ByteArray := method_9_code
abbrev yL_live : MethodName := { cls := "SourcewrightLaw", name := "live", desc := "(LSourcewright;II[J)I" }
abbrev cL_live : ByteArray := method_26_code
abbrev yL_match : MethodName := { cls := "SourcewrightLaw", name := "match", desc := "(LSourcewright;I[J)I" }
abbrev cL_match : ByteArray := method_36_code
abbrev yL_mayReturn : MethodName := { cls := "SourcewrightLaw", name := "mayReturn", desc := "(LSourcewright;I[J)I" }
abbrev cL_mayReturn : ByteArray := method_13_code
abbrev yL_meanBlock : MethodName := { cls := "SourcewrightLaw", name := "meanBlock", desc := "(LSourcewright;I[D)I" }
abbrev cL_meanBlock : ByteArray := method_38_code
abbrev yL_nearest : MethodName := { cls := "SourcewrightLaw", name := "nearest", desc := "(LSourcewright;II[J)I" }
abbrev cL_nearest : ByteArray := method_20_code
abbrev yL_next : MethodName := { cls := "SourcewrightLaw", name := "next", desc := "(LSourcewright;III[J)I" }
abbrev cL_next : ByteArray := method_19_code
abbrev yL_nexts : MethodName := { cls := "SourcewrightLaw", name := "nexts", desc := "(LSourcewright;II[J)I" }
abbrev cL_nexts : ByteArray := method_18_code
abbrev yL_order : MethodName := { cls := "SourcewrightLaw", name := "order", desc := "(LSourcewright;II[J)I" }
abbrev cL_order : ByteArray := method_21_code
abbrev yL_output : MethodName := { cls := "SourcewrightLaw", name := "output", desc := "(LSourcewright;I[J)I" }
abbrev cL_output : ByteArray := method_34_code
abbrev yL_run : MethodName := { cls := "SourcewrightLaw", name := "run", desc := "(LSourcewright;ZI[J)I" }
abbrev cL_run : ByteArray := method_33_code
abbrev yL_set : MethodName := { cls := "SourcewrightLaw", name := "set", desc := "(LSourcewright;II[J)I" }
abbrev cL_set : ByteArray := method_4_code
abbrev yL_sharers : MethodName := { cls := "SourcewrightLaw", name := "sharers", desc := "(LSourcewright;I[J)I" }
abbrev cL_sharers : ByteArray := method_12_code
abbrev yL_sign : MethodName := { cls := "SourcewrightLaw", name := "sign", desc := "(LSourcewright;II[J)I" }
abbrev cL_sign : ByteArray := method_29_code
abbrev yL_size : MethodName := { cls := "SourcewrightLaw", name := "size", desc := "(LSourcewright;II[J)I" }
abbrev cL_size : ByteArray := method_17_code
abbrev yL_source : MethodName := { cls := "SourcewrightLaw", name := "source", desc := "(LSourcewright;I[J)I" }
abbrev cL_source : ByteArray := method_28_code
abbrev yL_type : MethodName := { cls := "SourcewrightLaw", name := "type", desc := "(LSourcewright;I[J)I" }
abbrev cL_type : ByteArray := method_3_code
abbrev yX0_init : MethodName := { cls := "Sourcewright$Blocks", name := "<init>", desc := "(LSourcewright$Code;LSourcewright$Reading;)V" }
abbrev cX0_init : ByteArray := prog_2_method_1_code
abbrev yX10_init : MethodName := { cls := "Sourcewright$Ways", name := "<init>", desc := "(LSourcewright$Blocks;)V" }
abbrev cX10_init : ByteArray := prog_12_method_1_code
abbrev yX11_agree : MethodName := { cls := "Sourcewright", name := "agree", desc := "(I)Z" }
abbrev cX11_agree : ByteArray := prog_1_method_41_code
abbrev yX11_blocks : MethodName := { cls := "Sourcewright", name := "blocks", desc := "(I)I" }
abbrev cX11_blocks : ByteArray := prog_1_method_17_code
abbrev yX11_build : MethodName := { cls := "Sourcewright", name := "build", desc := "()V" }
abbrev cX11_build : ByteArray := prog_1_method_60_code
abbrev yX11_byteAt : MethodName := { cls := "Sourcewright", name := "byteAt", desc := "(I)I" }
abbrev cX11_byteAt : ByteArray := prog_1_method_5_code
abbrev yX11_calls : MethodName := { cls := "Sourcewright", name := "calls", desc := "(II)I" }
abbrev cX11_calls : ByteArray := prog_1_method_16_code
abbrev yX11_checkBlock : MethodName := { cls := "Sourcewright", name := "checkBlock", desc := "(II)V" }
abbrev cX11_checkBlock : ByteArray := prog_1_method_52_code
abbrev yX11_checkCompiled : MethodName := { cls := "Sourcewright", name := "checkCompiled", desc := "()V" }
abbrev cX11_checkCompiled : ByteArray := prog_1_method_55_code
abbrev yX11_checkFunction : MethodName := { cls := "Sourcewright", name := "checkFunction", desc := "(I)V" }
abbrev cX11_checkFunction : ByteArray := prog_1_method_51_code
abbrev yX11_checkInstruction : MethodName := { cls := "Sourcewright", name := "checkInstruction", desc := "(II)V" }
abbrev cX11_checkInstruction : ByteArray := prog_1_method_53_code
abbrev yX11_checkPlace : MethodName := { cls := "Sourcewright", name := "checkPlace", desc := "(I)V" }
abbrev cX11_checkPlace : ByteArray := prog_1_method_50_code
abbrev yX11_checkSteps : MethodName := { cls := "Sourcewright", name := "checkSteps", desc := "(I)V" }
abbrev cX11_checkSteps : ByteArray := prog_1_method_54_code
abbrev yX11_checksum : MethodName := { cls := "Sourcewright", name := "checksum", desc := "()J" }
abbrev cX11_checksum : ByteArray := prog_1_method_44_code
abbrev yX11_codeShare : MethodName := { cls := "Sourcewright", name := "codeShare", desc := "()F" }
abbrev cX11_codeShare : ByteArray := prog_1_method_45_code
abbrev yX11_compiled : MethodName := { cls := "Sourcewright", name := "compiled", desc := "()I" }
abbrev cX11_compiled : ByteArray := prog_1_method_33_code
abbrev yX11_compiledByte : MethodName := { cls := "Sourcewright", name := "compiledByte", desc := "(I)I" }
abbrev cX11_compiledByte : ByteArray := prog_1_method_34_code
abbrev yX11_depth : MethodName := { cls := "Sourcewright", name := "depth", desc := "(II)I" }
abbrev cX11_depth : ByteArray := prog_1_method_25_code
abbrev yX11_doubts : MethodName := { cls := "Sourcewright", name := "doubts", desc := "()I" }
abbrev cX11_doubts : ByteArray := prog_1_method_9_code
abbrev yX11_dry : MethodName := { cls := "Sourcewright", name := "dry", desc := "()I" }
abbrev cX11_dry : ByteArray := prog_1_method_36_code
abbrev yX11_entry : MethodName := { cls := "Sourcewright", name := "entry", desc := "(I)I" }
abbrev cX11_entry : ByteArray := prog_1_method_6_code
abbrev yX11_entryOf : MethodName := { cls := "Sourcewright", name := "entryOf", desc := "(I)I" }
abbrev cX11_entryOf : ByteArray := prog_1_method_12_code
abbrev yX11_first : MethodName := { cls := "Sourcewright", name := "first", desc := "(II)I" }
abbrev cX11_first : ByteArray := prog_1_method_18_code
abbrev yX11_forget : MethodName := { cls := "Sourcewright", name := "forget", desc := "()V" }
abbrev cX11_forget : ByteArray := prog_1_method_56_code
abbrev yX11_functionOf : MethodName := { cls := "Sourcewright", name := "functionOf", desc := "(I)I" }
abbrev cX11_functionOf : ByteArray := prog_1_method_13_code
abbrev yX11_functions : MethodName := { cls := "Sourcewright", name := "functions", desc := "()I" }
abbrev cX11_functions : ByteArray := prog_1_method_11_code
abbrev yX11_init : MethodName := { cls := "Sourcewright", name := "<init>", desc := "()V" }
abbrev cX11_init : ByteArray := prog_1_method_1_code
abbrev yX11_input : MethodName := { cls := "Sourcewright", name := "input", desc := "(I)I" }
abbrev cX11_input : ByteArray := prog_1_method_35_code
abbrev yX11_isAgreed : MethodName := { cls := "Sourcewright", name := "isAgreed", desc := "(I)Z" }
abbrev cX11_isAgreed : ByteArray := prog_1_method_61_code
abbrev yX11_isByte : MethodName := { cls := "Sourcewright", name := "isByte", desc := "(I)Z" }
abbrev cX11_isByte : ByteArray := prog_1_method_48_code
abbrev yX11_isHead : MethodName := { cls := "Sourcewright", name := "isHead", desc := "(II)Z" }
abbrev cX11_isHead : ByteArray := prog_1_method_24_code
abbrev yX11_isIdle : MethodName := { cls := "Sourcewright", name := "isIdle", desc := "(II)Z" }
abbrev cX11_isIdle : ByteArray := prog_1_method_29_code
abbrev yX11_isInDoubt : MethodName := { cls := "Sourcewright", name := "isInDoubt", desc := "(I)Z" }
abbrev cX11_isInDoubt : ByteArray := prog_1_method_8_code
abbrev yX11_isMeeting : MethodName := { cls := "Sourcewright", name := "isMeeting", desc := "(II)Z" }
abbrev cX11_isMeeting : ByteArray := prog_1_method_26_code
abbrev yX11_isSound : MethodName := { cls := "Sourcewright", name := "isSound", desc := "()Z" }
abbrev cX11_isSound : ByteArray := prog_1_method_47_code
abbrev yX11_keep : MethodName := { cls := "Sourcewright", name := "keep", desc := "()I" }
abbrev cX11_keep : ByteArray := prog_1_method_42_code
abbrev yX11_kind : MethodName := { cls := "Sourcewright", name := "kind", desc := "(I)C" }
abbrev cX11_kind : ByteArray := prog_1_method_7_code
abbrev yX11_leaps : MethodName := { cls := "Sourcewright", name := "leaps", desc := "(I)I" }
abbrev cX11_leaps : ByteArray := prog_1_method_27_code
abbrev yX11_length : MethodName := { cls := "Sourcewright", name := "length", desc := "(I)I" }
abbrev cX11_length : ByteArray := prog_1_method_10_code
abbrev yX11_live : MethodName := { cls := "Sourcewright", name := "live", desc := "(II)I" }
abbrev cX11_live : ByteArray := prog_1_method_28_code
abbrev yX11_match : MethodName := { cls := "Sourcewright", name := "match", desc := "(I)I" }
abbrev cX11_match : ByteArray := prog_1_method_43_code
abbrev yX11_mayReturn : MethodName := { cls := "Sourcewright", name := "mayReturn", desc := "(I)Z" }
abbrev cX11_mayReturn : ByteArray := prog_1_method_15_code
abbrev yX11_meanBlock : MethodName := { cls := "Sourcewright", name := "meanBlock", desc := "(I)D" }
abbrev cX11_meanBlock : ByteArray := prog_1_method_46_code
abbrev yX11_nearest : MethodName := { cls := "Sourcewright", name := "nearest", desc := "(II)I" }
abbrev cX11_nearest : ByteArray := prog_1_method_22_code
abbrev yX11_next : MethodName := { cls := "Sourcewright", name := "next", desc := "(III)I" }
abbrev cX11_next : ByteArray := prog_1_method_21_code
abbrev yX11_nexts : MethodName := { cls := "Sourcewright", name := "nexts", desc := "(II)I" }
abbrev cX11_nexts : ByteArray := prog_1_method_20_code
abbrev yX11_order : MethodName := { cls := "Sourcewright", name := "order", desc := "(II)I" }
abbrev cX11_order : ByteArray := prog_1_method_23_code
abbrev yX11_output : MethodName := { cls := "Sourcewright", name := "output", desc := "(I)I" }
abbrev cX11_output : ByteArray := prog_1_method_39_code
abbrev yX11_outputs : MethodName := { cls := "Sourcewright", name := "outputs", desc := "()I" }
abbrev cX11_outputs : ByteArray := prog_1_method_38_code
abbrev yX11_read : MethodName := { cls := "Sourcewright", name := "read", desc := "()V" }
abbrev cX11_read : ByteArray := prog_1_method_57_code
abbrev yX11_run : MethodName := { cls := "Sourcewright", name := "run", desc := "(ZI)C" }
abbrev cX11_run : ByteArray := prog_1_method_37_code
abbrev yX11_set : MethodName := { cls := "Sourcewright", name := "set", desc := "(II)I" }
abbrev cX11_set : ByteArray := prog_1_method_3_code
abbrev yX11_sharers : MethodName := { cls := "Sourcewright", name := "sharers", desc := "(I)I" }
abbrev cX11_sharers : ByteArray := prog_1_method_14_code
abbrev yX11_sign : MethodName := { cls := "Sourcewright", name := "sign", desc := "(II)C" }
abbrev cX11_sign : ByteArray := prog_1_method_32_code
abbrev yX11_size : MethodName := { cls := "Sourcewright", name := "size", desc := "(II)I" }
abbrev cX11_size : ByteArray := prog_1_method_19_code
abbrev yX11_source : MethodName := { cls := "Sourcewright", name := "source", desc := "(I)I" }
abbrev cX11_source : ByteArray := prog_1_method_31_code
abbrev yX11_steps : MethodName := { cls := "Sourcewright", name := "steps", desc := "()I" }
abbrev cX11_steps : ByteArray := prog_1_method_40_code
abbrev yX11_tidy : MethodName := { cls := "Sourcewright", name := "tidy", desc := "(Z)Z" }
abbrev cX11_tidy : ByteArray := prog_1_method_30_code
abbrev yX11_type : MethodName := { cls := "Sourcewright", name := "type", desc := "(I)I" }
abbrev cX11_type : ByteArray := prog_1_method_2_code
abbrev yX11_wipe : MethodName := { cls := "Sourcewright", name := "wipe", desc := "()I" }
abbrev cX11_wipe : ByteArray := prog_1_method_4_code
abbrev yX13_init : MethodName := { cls := "SourcewrightModel$Reading", name := "<init>", desc := "([ILjava/util/ArrayList;)V" }
abbrev cX13_init : ByteArray := prog_16_method_1_code
abbrev yX13_numberOf : MethodName := { cls := "SourcewrightModel$Reading", name := "numberOf", desc := "(I)I" }
abbrev cX13_numberOf : ByteArray := prog_16_method_9_code
abbrev yX13_walked : MethodName := { cls := "SourcewrightModel$Reading", name := "walked", desc := "([Z)[Z" }
abbrev cX13_walked : ByteArray := prog_16_method_2_code
abbrev yX14_init : MethodName := { cls := "SourcewrightModel$Run", name := "<init>", desc := "([ILjava/util/ArrayList;I)V" }
abbrev cX14_init : ByteArray := prog_17_method_1_code
abbrev yX15_goTo : MethodName := { cls := "SourcewrightModel$Writer", name := "goTo", desc := "(I)V" }
abbrev cX15_goTo : ByteArray := prog_18_method_2_code
abbrev yX15_init : MethodName := { cls := "SourcewrightModel$Writer", name := "<init>", desc := "(LSourcewrightModel$Reading;Z)V" }
abbrev cX15_init : ByteArray := prog_18_method_1_code
abbrev yX16_agree : MethodName := { cls := "SourcewrightModel", name := "agree", desc := "(I)Z" }
abbrev cX16_agree : ByteArray := prog_14_method_59_code
abbrev yX16_agrees : MethodName := { cls := "SourcewrightModel", name := "agrees", desc := "([II)Z" }
abbrev cX16_agrees : ByteArray := prog_14_method_58_code
abbrev yX16_back : MethodName := { cls := "SourcewrightModel", name := "back", desc := "()[I" }
abbrev cX16_back : ByteArray := prog_14_method_49_code
abbrev yX16_blocks : MethodName := { cls := "SourcewrightModel", name := "blocks", desc := "(I)I" }
abbrev cX16_blocks : ByteArray := prog_14_method_33_code
abbrev yX16_byteAt : MethodName := { cls := "SourcewrightModel", name := "byteAt", desc := "(I)I" }
abbrev cX16_byteAt : ByteArray := prog_14_method_21_code
abbrev yX16_calls : MethodName := { cls := "SourcewrightModel", name := "calls", desc := "(II)I" }
abbrev cX16_calls : ByteArray := prog_14_method_32_code
abbrev yX16_checksum : MethodName := { cls := "SourcewrightModel", name := "checksum", desc := "()J" }
abbrev cX16_checksum : ByteArray := prog_14_method_63_code
abbrev yX16_codeShare : MethodName := { cls := "SourcewrightModel", name := "codeShare", desc := "()F" }
abbrev cX16_codeShare : ByteArray := prog_14_method_64_code
abbrev yX16_compiled : MethodName := { cls := "SourcewrightModel", name := "compiled", desc := "()I" }
abbrev cX16_compiled : ByteArray := prog_14_method_50_code
abbrev yX16_compiledByte : MethodName := { cls := "SourcewrightModel", name := "compiledByte", desc := "(I)I" }
abbrev cX16_compiledByte : ByteArray := prog_14_method_51_code
abbrev yX16_depth : MethodName := { cls := "SourcewrightModel", name := "depth", desc := "(II)I" }
abbrev cX16_depth : ByteArray := prog_14_method_41_code
abbrev yX16_doubts : MethodName := { cls := "SourcewrightModel", name := "doubts", desc := "()I" }
abbrev cX16_doubts : ByteArray := prog_14_method_25_code
abbrev yX16_dry : MethodName := { cls := "SourcewrightModel", name := "dry", desc := "()I" }
abbrev cX16_dry : ByteArray := prog_14_method_53_code
abbrev yX16_entry : MethodName := { cls := "SourcewrightModel", name := "entry", desc := "(I)I" }
abbrev cX16_entry : ByteArray := prog_14_method_22_code
abbrev yX16_entryOf : MethodName := { cls := "SourcewrightModel", name := "entryOf", desc := "(I)I" }
abbrev cX16_entryOf : ByteArray := prog_14_method_28_code
abbrev yX16_first : MethodName := { cls := "SourcewrightModel", name := "first", desc := "(II)I" }
abbrev cX16_first : ByteArray := prog_14_method_34_code
abbrev yX16_function : MethodName := { cls := "SourcewrightModel", name := "function", desc := "(I)LSourcewrightModel$Function;" }
abbrev cX16_function : ByteArray := prog_14_method_15_code
abbrev yX16_functionOf : MethodName := { cls := "SourcewrightModel", name := "functionOf", desc := "(I)I" }
abbrev cX16_functionOf : ByteArray := prog_14_method_29_code
abbrev yX16_functions : MethodName := { cls := "SourcewrightModel", name := "functions", desc := "()I" }
abbrev cX16_functions : ByteArray := prog_14_method_27_code
abbrev yX16_in : MethodName := { cls := "SourcewrightModel", name := "in", desc := "(III)Z" }
abbrev cX16_in : ByteArray := prog_14_method_1_code
abbrev yX16_init : MethodName := { cls := "SourcewrightModel", name := "<init>", desc := "()V" }
abbrev cX16_init : ByteArray := prog_14_method_9_code
abbrev yX16_input : MethodName := { cls := "SourcewrightModel", name := "input", desc := "(I)I" }
abbrev cX16_input : ByteArray := prog_14_method_52_code
abbrev yX16_isGood : MethodName := { cls := "SourcewrightModel", name := "isGood", desc := "([II)Z" }
abbrev cX16_isGood : ByteArray := prog_14_method_4_code
abbrev yX16_isHead : MethodName := { cls := "SourcewrightModel", name := "isHead", desc := "(II)Z" }
abbrev cX16_isHead : ByteArray := prog_14_method_40_code
abbrev yX16_isIdle : MethodName := { cls := "SourcewrightModel", name := "isIdle", desc := "(II)Z" }
abbrev cX16_isIdle : ByteArray := prog_14_method_45_code
abbrev yX16_isInDoubt : MethodName := { cls := "SourcewrightModel", name := "isInDoubt", desc := "(I)Z" }
abbrev cX16_isInDoubt : ByteArray := prog_14_method_24_code
abbrev yX16_isMeeting : MethodName := { cls := "SourcewrightModel", name := "isMeeting", desc := "(II)Z" }
abbrev cX16_isMeeting : ByteArray := prog_14_method_42_code
abbrev yX16_isSound : MethodName := { cls := "SourcewrightModel", name := "isSound", desc := "()Z" }
abbrev cX16_isSound : ByteArray := prog_14_method_66_code
abbrev yX16_isWhole : MethodName := { cls := "SourcewrightModel", name := "isWhole", desc := "([II)Z" }
abbrev cX16_isWhole : ByteArray := prog_14_method_3_code
abbrev yX16_keep : MethodName := { cls := "SourcewrightModel", name := "keep", desc := "()I" }
abbrev cX16_keep : ByteArray := prog_14_method_61_code
abbrev yX16_kind : MethodName := { cls := "SourcewrightModel", name := "kind", desc := "(I)C" }
abbrev cX16_kind : ByteArray := prog_14_method_23_code
abbrev yX16_leaps : MethodName := { cls := "SourcewrightModel", name := "leaps", desc := "(I)I" }
abbrev cX16_leaps : ByteArray := prog_14_method_43_code
abbrev yX16_length : MethodName := { cls := "SourcewrightModel", name := "length", desc := "(I)I" }
abbrev cX16_length : ByteArray := prog_14_method_26_code
abbrev yX16_live : MethodName := { cls := "SourcewrightModel", name := "live", desc := "(II)I" }
abbrev cX16_live : ByteArray := prog_14_method_44_code
abbrev yX16_match : MethodName := { cls := "SourcewrightModel", name := "match", desc := "(I)I" }
abbrev cX16_match : ByteArray := prog_14_method_62_code
abbrev yX16_mayReturn : MethodName := { cls := "SourcewrightModel", name := "mayReturn", desc := "(I)Z" }
abbrev cX16_mayReturn : ByteArray := prog_14_method_31_code
abbrev yX16_meanBlock : MethodName := { cls := "SourcewrightModel", name := "meanBlock", desc := "(I)D" }
abbrev cX16_meanBlock : ByteArray := prog_14_method_65_code
abbrev yX16_nearest : MethodName := { cls := "SourcewrightModel", name := "nearest", desc := "(II)I" }
abbrev cX16_nearest : ByteArray := prog_14_method_38_code
abbrev yX16_next : MethodName := { cls := "SourcewrightModel", name := "next", desc := "(III)I" }
abbrev cX16_next : ByteArray := prog_14_method_37_code
abbrev yX16_nexts : MethodName := { cls := "SourcewrightModel", name := "nexts", desc := "(II)I" }
abbrev cX16_nexts : ByteArray := prog_14_method_36_code
abbrev yX16_noByte : MethodName := { cls := "SourcewrightModel", name := "noByte", desc := "(I)Z" }
abbrev cX16_noByte : ByteArray := prog_14_method_14_code
abbrev yX16_order : MethodName := { cls := "SourcewrightModel", name := "order", desc := "(II)I" }
abbrev cX16_order : ByteArray := prog_14_method_39_code
abbrev yX16_output : MethodName := { cls := "SourcewrightModel", name := "output", desc := "(I)I" }
abbrev cX16_output : ByteArray := prog_14_method_56_code
abbrev yX16_outputs : MethodName := { cls := "SourcewrightModel", name := "outputs", desc := "()I" }
abbrev cX16_outputs : ByteArray := prog_14_method_55_code
abbrev yX16_read : MethodName := { cls := "SourcewrightModel", name := "read", desc := "()LSourcewrightModel$Reading;" }
abbrev cX16_read : ByteArray := prog_14_method_13_code
abbrev yX16_rowOf : MethodName := { cls := "SourcewrightModel", name := "rowOf", desc := "(Ljava/util/ArrayList;)[I" }
abbrev cX16_rowOf : ByteArray := prog_14_method_12_code
abbrev yX16_run : MethodName := { cls := "SourcewrightModel", name := "run", desc := "(ZI)C" }
abbrev cX16_run : ByteArray := prog_14_method_54_code
abbrev yX16_set : MethodName := { cls := "SourcewrightModel", name := "set", desc := "(II)I" }
abbrev cX16_set : ByteArray := prog_14_method_19_code
abbrev yX16_sharers : MethodName := { cls := "SourcewrightModel", name := "sharers", desc := "(I)I" }
abbrev cX16_sharers : ByteArray := prog_14_method_30_code
abbrev yX16_sign : MethodName := { cls := "SourcewrightModel", name := "sign", desc := "(II)C" }
abbrev cX16_sign : ByteArray := prog_14_method_48_code
abbrev yX16_size : MethodName := { cls := "SourcewrightModel", name := "size", desc := "(II)I" }
abbrev cX16_size : ByteArray := prog_14_method_35_code
abbrev yX16_source : MethodName := { cls := "SourcewrightModel", name := "source", desc := "(I)I" }
abbrev cX16_source : ByteArray := prog_14_method_47_code
abbrev yX16_steps : MethodName := { cls := "SourcewrightModel", name := "steps", desc := "()I" }
abbrev cX16_steps : ByteArray := prog_14_method_57_code
abbrev yX16_thrown : MethodName := { cls := "SourcewrightModel", name := "thrown", desc := "()I" }
abbrev cX16_thrown : ByteArray := prog_14_method_10_code
abbrev yX16_tidy : MethodName := { cls := "SourcewrightModel", name := "tidy", desc := "(Z)Z" }
abbrev cX16_tidy : ByteArray := prog_14_method_46_code
abbrev yX16_told : MethodName := { cls := "SourcewrightModel", name := "told", desc := "(I)I" }
abbrev cX16_told : ByteArray := prog_14_method_2_code
abbrev yX16_type : MethodName := { cls := "SourcewrightModel", name := "type", desc := "(I)I" }
abbrev cX16_type : ByteArray := prog_14_method_18_code
abbrev yX16_wipe : MethodName := { cls := "SourcewrightModel", name := "wipe", desc := "()I" }
abbrev cX16_wipe : ByteArray := prog_14_method_20_code
abbrev yX16_withBlock : MethodName := { cls := "SourcewrightModel", name := "withBlock", desc := "(II)LSourcewrightModel$Function;" }
abbrev cX16_withBlock : ByteArray := prog_14_method_16_code
abbrev yX16_withPlace : MethodName := { cls := "SourcewrightModel", name := "withPlace", desc := "(II)LSourcewrightModel$Function;" }
abbrev cX16_withPlace : ByteArray := prog_14_method_17_code
abbrev yX1_count : MethodName := { cls := "Sourcewright$Builder", name := "count", desc := "()I" }
abbrev cX1_count : ByteArray := prog_3_method_2_code
abbrev yX1_finish : MethodName := { cls := "Sourcewright$Builder", name := "finish", desc := "()V" }
abbrev cX1_finish : ByteArray := prog_3_method_6_code
abbrev yX1_init : MethodName := { cls := "Sourcewright$Builder", name := "<init>", desc := "(LSourcewright$Code;LSourcewright$Blocks;LSourcewright$Ways;LSourcewright$Life;)V" }
abbrev cX1_init : ByteArray := prog_3_method_1_code
abbrev yX1_put : MethodName := { cls := "Sourcewright$Builder", name := "put", desc := "(I)V" }
abbrev cX1_put : ByteArray := prog_3_method_12_code
abbrev yX1_result : MethodName := { cls := "Sourcewright$Builder", name := "result", desc := "()LSourcewright$Code;" }
abbrev cX1_result : ByteArray := prog_3_method_3_code
abbrev yX1_start : MethodName := { cls := "Sourcewright$Builder", name := "start", desc := "(Z)V" }
abbrev cX1_start : ByteArray := prog_3_method_4_code
abbrev yX2_at : MethodName := { cls := "Sourcewright$Code", name := "at", desc := "(I)I" }
abbrev cX2_at : ByteArray := prog_4_method_3_code
abbrev yX2_count : MethodName := { cls := "Sourcewright$Code", name := "count", desc := "()I" }
abbrev cX2_count : ByteArray := prog_4_method_2_code
abbrev yX2_cut : MethodName := { cls := "Sourcewright$Code", name := "cut", desc := "(I)V" }
abbrev cX2_cut : ByteArray := prog_4_method_5_code
abbrev yX2_decode : MethodName := { cls := "Sourcewright$Code", name := "decode", desc := "()V" }
abbrev cX2_decode : ByteArray := prog_4_method_10_code
abbrev yX2_find : MethodName := { cls := "Sourcewright$Code", name := "find", desc := "(I)I" }
abbrev cX2_find : ByteArray := prog_4_method_11_code
abbrev yX2_init : MethodName := { cls := "Sourcewright$Code", name := "<init>", desc := "()V" }
abbrev cX2_init : ByteArray := prog_4_method_1_code
abbrev yX2_minor : MethodName := { cls := "Sourcewright$Code", name := "minor", desc := "(I)I" }
abbrev cX2_minor : ByteArray := prog_4_method_9_code
abbrev yX2_named : MethodName := { cls := "Sourcewright$Code", name := "named", desc := "(I)I" }
abbrev cX2_named : ByteArray := prog_4_method_13_code
abbrev yX2_op : MethodName := { cls := "Sourcewright$Code", name := "op", desc := "(I)I" }
abbrev cX2_op : ByteArray := prog_4_method_6_code
abbrev yX2_put : MethodName := { cls := "Sourcewright$Code", name := "put", desc := "(II)V" }
abbrev cX2_put : ByteArray := prog_4_method_4_code
abbrev yX2_spanOf : MethodName := { cls := "Sourcewright$Code", name := "spanOf", desc := "(I)I" }
abbrev cX2_spanOf : ByteArray := prog_4_method_14_code
abbrev yX3_init : MethodName := { cls := "Sourcewright$Life", name := "<init>", desc := "(LSourcewright$Code;LSourcewright$Reading;)V" }
abbrev cX3_init : ByteArray := prog_5_method_1_code
abbrev yX3_tell : MethodName := { cls := "Sourcewright$Life", name := "tell", desc := "()V" }
abbrev cX3_tell : ByteArray := prog_5_method_4_code
abbrev yX4_branch : MethodName := { cls := "Sourcewright$Machine", name := "branch", desc := "(LSourcewright$Code;I)C" }
abbrev cX4_branch : ByteArray := prog_6_method_12_code
abbrev yX4_go : MethodName := { cls := "Sourcewright$Machine", name := "go", desc := "(LSourcewright$Code;[III)C" }
abbrev cX4_go : ByteArray := prog_6_method_5_code
abbrev yX4_init : MethodName := { cls := "Sourcewright$Machine", name := "<init>", desc := "()V" }
abbrev cX4_init : ByteArray := prog_6_method_1_code
abbrev yX4_isTaken : MethodName := { cls := "Sourcewright$Machine", name := "isTaken", desc := "(I)Z" }
abbrev cX4_isTaken : ByteArray := prog_6_method_13_code
abbrev yX4_outCount : MethodName := { cls := "Sourcewright$Machine", name := "outCount", desc := "()I" }
abbrev cX4_outCount : ByteArray := prog_6_method_2_code
abbrev yX4_perform : MethodName := { cls := "Sourcewright$Machine", name := "perform", desc := "(LSourcewright$Code;I)C" }
abbrev cX4_perform : ByteArray := prog_6_method_10_code
abbrev yX4_reset : MethodName := { cls := "Sourcewright$Machine", name := "reset", desc := "()V" }
abbrev cX4_reset : ByteArray := prog_6_method_6_code
abbrev yX4_stepCount : MethodName := { cls := "Sourcewright$Machine", name := "stepCount", desc := "()I" }
abbrev cX4_stepCount : ByteArray := prog_6_method_4_code
abbrev yX5_count : MethodName := { cls := "Sourcewright$Reading", name := "count", desc := "()I" }
abbrev cX5_count : ByteArray := prog_7_method_2_code
abbrev yX5_findFunctions : MethodName := { cls := "Sourcewright$Reading", name := "findFunctions", desc := "([II)V" }
abbrev cX5_findFunctions : ByteArray := prog_7_method_15_code
abbrev yX5_findReturns : MethodName := { cls := "Sourcewright$Reading", name := "findReturns", desc := "()V" }
abbrev cX5_findReturns : ByteArray := prog_7_method_13_code
abbrev yX5_init : MethodName := { cls := "Sourcewright$Reading", name := "<init>", desc := "(LSourcewright$Code;)V" }
abbrev cX5_init : ByteArray := prog_7_method_1_code
abbrev yX5_isFunction : MethodName := { cls := "Sourcewright$Reading", name := "isFunction", desc := "(I)Z" }
abbrev cX5_isFunction : ByteArray := prog_7_method_3_code
abbrev yX5_markBytes : MethodName := { cls := "Sourcewright$Reading", name := "markBytes", desc := "()V" }
abbrev cX5_markBytes : ByteArray := prog_7_method_19_code
abbrev yX5_noteEntry : MethodName := { cls := "Sourcewright$Reading", name := "noteEntry", desc := "(I)Z" }
abbrev cX5_noteEntry : ByteArray := prog_7_method_16_code
abbrev yX5_tell : MethodName := { cls := "Sourcewright$Reading", name := "tell", desc := "([II)V" }
abbrev cX5_tell : ByteArray := prog_7_method_11_code
abbrev yX6_init : MethodName := { cls := "Sourcewright$Scribe", name := "<init>", desc := "(LSourcewright$Code;LSourcewright$Blocks;LSourcewright$Ways;LSourcewright$Life;)V" }
abbrev cX6_init : ByteArray := prog_8_method_1_code
abbrev yX7_clear : MethodName := { cls := "Sourcewright$Sets", name := "clear", desc := "(I)V" }
abbrev cX7_clear : ByteArray := prog_9_method_2_code
abbrev yX7_init : MethodName := { cls := "Sourcewright$Sets", name := "<init>", desc := "()V" }
abbrev cX7_init : ByteArray := prog_9_method_1_code
abbrev yX8_count : MethodName := { cls := "Sourcewright$Shelf", name := "count", desc := "()I" }
abbrev cX8_count : ByteArray := prog_10_method_2_code
abbrev yX8_empty : MethodName := { cls := "Sourcewright$Shelf", name := "empty", desc := "()V" }
abbrev cX8_empty : ByteArray := prog_10_method_3_code
abbrev yX8_init : MethodName := { cls := "Sourcewright$Shelf", name := "<init>", desc := "()V" }
abbrev cX8_init : ByteArray := prog_10_method_1_code
abbrev yX9_init : MethodName := { cls := "Sourcewright$Tour", name := "<init>", desc := "(LSourcewright$Code;LSourcewright$Blocks;LSourcewright$Ways;Z)V" }
abbrev cX9_init : ByteArray := prog_11_method_1_code
theorem dJ15_checkIndex_7cf53_0 : decode cJ15_checkIndex_7cf53 0 = .ok (.iload_n 0, 1) := by decide +kernel
theorem dJ15_checkIndex_7cf53_1 : decode cJ15_checkIndex_7cf53 1 = .ok (.iload_n 1, 1) := by decide +kernel
theorem dJ15_checkIndex_7cf53_2 : decode cJ15_checkIndex_7cf53 2 = .ok (.aconst_null, 1) := by decide +kernel
theorem dJ15_checkIndex_7cf53_3 : decode cJ15_checkIndex_7cf53 3 = .ok (.invokestatic 105, 3) := by decide +kernel
theorem dJ15_checkIndex_7cf53_6 : decode cJ15_checkIndex_7cf53 6 = .ok (.ireturn, 1) := by decide +kernel
theorem dJ3_checkIndex_8e157_0 : decode cJ3_checkIndex_8e157 0 = .ok (.iload_n 0, 1) := by decide +kernel
theorem dJ3_checkIndex_8e157_1 : decode cJ3_checkIndex_8e157 1 = .ok (.ifCond .lt 8, 3) := by decide +kernel
theorem dJ3_checkIndex_8e157_4 : decode cJ3_checkIndex_8e157 4 = .ok (.iload_n 0, 1) := by decide +kernel
theorem dJ3_checkIndex_8e157_5 : decode cJ3_checkIndex_8e157 5 = .ok (.iload_n 1, 1) := by decide +kernel
theorem dJ3_checkIndex_8e157_6 : decode cJ3_checkIndex_8e157 6 = .ok (.if_icmp .lt 10, 3) := by decide +kernel
theorem dJ3_checkIndex_8e157_16 : decode cJ3_checkIndex_8e157 16 = .ok (.iload_n 0, 1) := by decide +kernel
theorem dJ3_checkIndex_8e157_17 : decode cJ3_checkIndex_8e157 17 = .ok (.ireturn, 1) := by decide +kernel
theorem dJ6_init_d00df_0 : decode cJ6_init_d00df 0 = .ok (.aload_n 0, 1) := by decide +kernel
theorem dJ6_init_d00df_1 : decode cJ6_init_d00df 1 = .ok (.invokespecial 202, 3) := by decide +kernel
theorem dJ6_init_d00df_4 : decode cJ6_init_d00df 4 = .ok (.aload_n 0, 1) := by decide +kernel
theorem dJ6_init_d00df_5 : decode cJ6_init_d00df 5 = .ok (.iload_n 1, 1) := by decide +kernel
theorem dJ6_init_d00df_6 : decode cJ6_init_d00df 6 = .ok (.putfield 205, 3) := by decide +kernel
theorem dJ6_init_d00df_9 : decode cJ6_init_d00df 9 = .ok (.return_, 1) := by decide +kernel
theorem dJ6_intValue_8abf5_0 : decode cJ6_intValue_8abf5 0 = .ok (.aload_n 0, 1) := by decide +kernel
theorem dJ6_intValue_8abf5_1 : decode cJ6_intValue_8abf5 1 = .ok (.getfield 205, 3) := by decide +kernel
theorem dJ6_intValue_8abf5_4 : decode cJ6_intValue_8abf5 4 = .ok (.ireturn, 1) := by decide +kernel
theorem dJ6_valueOf_2dffe_0 : decode cJ6_valueOf_2dffe 0 = .ok (.iload_n 0, 1) := by decide +kernel
theorem dJ6_valueOf_2dffe_1 : decode cJ6_valueOf_2dffe 1 = .ok (.bipush (-128), 2) := by decide +kernel
theorem dJ6_valueOf_2dffe_3 : decode cJ6_valueOf_2dffe 3 = .ok (.if_icmp .lt 20, 3) := by decide +kernel
theorem dJ6_valueOf_2dffe_6 : decode cJ6_valueOf_2dffe 6 = .ok (.iload_n 0, 1) := by decide +kernel
theorem dJ6_valueOf_2dffe_7 : decode cJ6_valueOf_2dffe 7 = .ok (.getstatic 191, 3) := by decide +kernel
theorem dJ6_valueOf_2dffe_10 : decode cJ6_valueOf_2dffe 10 = .ok (.if_icmp .gt 13, 3) := by decide +kernel
theorem dJ6_valueOf_2dffe_13 : decode cJ6_valueOf_2dffe 13 = .ok (.getstatic 195, 3) := by decide +kernel
theorem dJ6_valueOf_2dffe_16 : decode cJ6_valueOf_2dffe 16 = .ok (.iload_n 0, 1) := by decide +kernel
theorem dJ6_valueOf_2dffe_17 : decode cJ6_valueOf_2dffe 17 = .ok (.sipush 128, 3) := by decide +kernel
theorem dJ6_valueOf_2dffe_20 : decode cJ6_valueOf_2dffe 20 = .ok (.iadd, 1) := by decide +kernel
theorem dJ6_valueOf_2dffe_21 : decode cJ6_valueOf_2dffe 21 = .ok (.aaload, 1) := by decide +kernel
theorem dJ6_valueOf_2dffe_22 : decode cJ6_valueOf_2dffe 22 = .ok (.areturn, 1) := by decide +kernel
theorem dJ6_valueOf_2dffe_23 : decode cJ6_valueOf_2dffe 23 = .ok (.new 1, 3) := by decide +kernel
theorem dJ6_valueOf_2dffe_26 : decode cJ6_valueOf_2dffe 26 = .ok (.dup, 1) := by decide +kernel
theorem dJ6_valueOf_2dffe_27 : decode cJ6_valueOf_2dffe 27 = .ok (.iload_n 0, 1) := by decide +kernel
theorem dJ6_valueOf_2dffe_28 : decode cJ6_valueOf_2dffe 28 = .ok (.invokespecial 199, 3) := by decide +kernel
theorem dJ6_valueOf_2dffe_31 : decode cJ6_valueOf_2dffe 31 = .ok (.areturn, 1) := by decide +kernel
theorem dJ7_copyOf_1904c_0 : decode cJ7_copyOf_1904c 0 = .ok (.aload_n 0, 1) := by decide +kernel
theorem dJ7_copyOf_1904c_1 : decode cJ7_copyOf_1904c 1 = .ok (.iload_n 1, 1) := by decide +kernel
theorem dJ7_copyOf_1904c_2 : decode cJ7_copyOf_1904c 2 = .ok (.aload_n 0, 1) := by decide +kernel
theorem dJ7_copyOf_1904c_3 : decode cJ7_copyOf_1904c 3 = .ok (.invokevirtual 86, 3) := by decide +kernel
theorem dJ7_copyOf_1904c_6 : decode cJ7_copyOf_1904c 6 = .ok (.invokestatic 300, 3) := by decide +kernel
theorem dJ7_copyOf_1904c_9 : decode cJ7_copyOf_1904c 9 = .ok (.areturn, 1) := by decide +kernel
theorem dJ7_copyOf_6403c_0 : decode cJ7_copyOf_6403c 0 = .ok (.aload_n 2, 1) := by decide +kernel
theorem dJ7_copyOf_6403c_1 : decode cJ7_copyOf_6403c 1 = .ok (.ldc 110, 2) := by decide +kernel
theorem dJ7_copyOf_6403c_3 : decode cJ7_copyOf_6403c 3 = .ok (.if_acmp .ne 10, 3) := by decide +kernel
theorem dJ7_copyOf_6403c_6 : decode cJ7_copyOf_6403c 6 = .ok (.iload_n 1, 1) := by decide +kernel
theorem dJ7_copyOf_6403c_7 : decode cJ7_copyOf_6403c 7 = .ok (.anewarray 2, 3) := by decide +kernel
theorem dJ7_copyOf_6403c_10 : decode cJ7_copyOf_6403c 10 = .ok (.goto 14, 3) := by decide +kernel
theorem dJ7_copyOf_6403c_24 : decode cJ7_copyOf_6403c 24 = .ok (.astore_n 3, 1) := by decide +kernel
theorem dJ7_copyOf_6403c_25 : decode cJ7_copyOf_6403c 25 = .ok (.aload_n 0, 1) := by decide +kernel
theorem dJ7_copyOf_6403c_26 : decode cJ7_copyOf_6403c 26 = .ok (.iconst 0, 1) := by decide +kernel
theorem dJ7_copyOf_6403c_27 : decode cJ7_copyOf_6403c 27 = .ok (.aload_n 3, 1) := by decide +kernel
theorem dJ7_copyOf_6403c_28 : decode cJ7_copyOf_6403c 28 = .ok (.iconst 0, 1) := by decide +kernel
theorem dJ7_copyOf_6403c_29 : decode cJ7_copyOf_6403c 29 = .ok (.aload_n 0, 1) := by decide +kernel
theorem dJ7_copyOf_6403c_30 : decode cJ7_copyOf_6403c 30 = .ok (.arraylength, 1) := by decide +kernel
theorem dJ7_copyOf_6403c_31 : decode cJ7_copyOf_6403c 31 = .ok (.iload_n 1, 1) := by decide +kernel
theorem dJ7_copyOf_6403c_32 : decode cJ7_copyOf_6403c 32 = .ok (.invokestatic 304, 3) := by decide +kernel
theorem dJ7_copyOf_6403c_35 : decode cJ7_copyOf_6403c 35 = .ok (.invokestatic 150, 3) := by decide +kernel
theorem dJ7_copyOf_6403c_38 : decode cJ7_copyOf_6403c 38 = .ok (.aload_n 3, 1) := by decide +kernel
theorem dJ7_copyOf_6403c_39 : decode cJ7_copyOf_6403c 39 = .ok (.areturn, 1) := by decide +kernel
theorem dJx35411_checkForComodification_da8c8_0 : decode cJx35411_checkForComodification_da8c8 0 = .ok (.aload_n 0, 1) := by decide +kernel
theorem dJx35411_checkForComodification_da8c8_1 : decode cJx35411_checkForComodification_da8c8 1 = .ok (.getfield 1, 3) := by decide +kernel
theorem dJx35411_checkForComodification_da8c8_4 : decode cJx35411_checkForComodification_da8c8 4 = .ok (.getfield 17, 3) := by decide +kernel
theorem dJx35411_checkForComodification_da8c8_7 : decode cJx35411_checkForComodification_da8c8 7 = .ok (.aload_n 0, 1) := by decide +kernel
theorem dJx35411_checkForComodification_da8c8_8 : decode cJx35411_checkForComodification_da8c8 8 = .ok (.getfield 22, 3) := by decide +kernel
theorem dJx35411_checkForComodification_da8c8_11 : decode cJx35411_checkForComodification_da8c8 11 = .ok (.if_icmp .eq 11, 3) := by decide +kernel
theorem dJx35411_checkForComodification_da8c8_22 : decode cJx35411_checkForComodification_da8c8 22 = .ok (.return_, 1) := by decide +kernel
theorem dJx35411_hasNext_aae02_0 : decode cJx35411_hasNext_aae02 0 = .ok (.aload_n 0, 1) := by decide +kernel
theorem dJx35411_hasNext_aae02_1 : decode cJx35411_hasNext_aae02 1 = .ok (.getfield 25, 3) := by decide +kernel
theorem dJx35411_hasNext_aae02_4 : decode cJx35411_hasNext_aae02 4 = .ok (.aload_n 0, 1) := by decide +kernel
theorem dJx35411_hasNext_aae02_5 : decode cJx35411_hasNext_aae02 5 = .ok (.getfield 1, 3) := by decide +kernel
theorem dJx35411_hasNext_aae02_8 : decode cJx35411_hasNext_aae02 8 = .ok (.getfield 28, 3) := by decide +kernel
theorem dJx35411_hasNext_aae02_11 : decode cJx35411_hasNext_aae02 11 = .ok (.if_icmp .eq 7, 3) := by decide +kernel
theorem dJx35411_hasNext_aae02_14 : decode cJx35411_hasNext_aae02 14 = .ok (.iconst 1, 1) := by decide +kernel
theorem dJx35411_hasNext_aae02_15 : decode cJx35411_hasNext_aae02 15 = .ok (.goto 4, 3) := by decide +kernel
theorem dJx35411_hasNext_aae02_18 : decode cJx35411_hasNext_aae02 18 = .ok (.iconst 0, 1) := by decide +kernel
theorem dJx35411_hasNext_aae02_19 : decode cJx35411_hasNext_aae02 19 = .ok (.ireturn, 1) := by decide +kernel
theorem dJx35411_init_45d68_0 : decode cJx35411_init_45d68 0 = .ok (.aload_n 0, 1) := by decide +kernel
theorem dJx35411_init_45d68_1 : decode cJx35411_init_45d68 1 = .ok (.aload_n 1, 1) := by decide +kernel
theorem dJx35411_init_45d68_2 : decode cJx35411_init_45d68 2 = .ok (.putfield 1, 3) := by decide +kernel
theorem dJx35411_init_45d68_5 : decode cJx35411_init_45d68 5 = .ok (.aload_n 0, 1) := by decide +kernel
theorem dJx35411_init_45d68_6 : decode cJx35411_init_45d68 6 = .ok (.invokespecial 7, 3) := by decide +kernel
theorem dJx35411_init_45d68_9 : decode cJx35411_init_45d68 9 = .ok (.aload_n 0, 1) := by decide +kernel
theorem dJx35411_init_45d68_10 : decode cJx35411_init_45d68 10 = .ok (.iconst (-1), 1) := by decide +kernel
theorem dJx35411_init_45d68_11 : decode cJx35411_init_45d68 11 = .ok (.putfield 13, 3) := by decide +kernel
theorem dJx35411_init_45d68_14 : decode cJx35411_init_45d68 14 = .ok (.aload_n 0, 1) := by decide +kernel
theorem dJx35411_init_45d68_15 : decode cJx35411_init_45d68 15 = .ok (.aload_n 0, 1) := by decide +kernel
theorem dJx35411_init_45d68_16 : decode cJx35411_init_45d68 16 = .ok (.getfield 1, 3) := by decide +kernel
theorem dJx35411_init_45d68_19 : decode cJx35411_init_45d68 19 = .ok (.getfield 17, 3) := by decide +kernel
theorem dJx35411_init_45d68_22 : decode cJx35411_init_45d68 22 = .ok (.putfield 22, 3) := by decide +kernel
theorem dJx35411_init_45d68_25 : decode cJx35411_init_45d68 25 = .ok (.return_, 1) := by decide +kernel
theorem dJx35411_next_0502b_0 : decode cJx35411_next_0502b 0 = .ok (.aload_n 0, 1) := by decide +kernel
theorem dJx35411_next_0502b_1 : decode cJx35411_next_0502b 1 = .ok (.invokevirtual 31, 3) := by decide +kernel
theorem dJx35411_next_0502b_4 : decode cJx35411_next_0502b 4 = .ok (.aload_n 0, 1) := by decide +kernel
theorem dJx35411_next_0502b_5 : decode cJx35411_next_0502b 5 = .ok (.getfield 25, 3) := by decide +kernel
theorem dJx35411_next_0502b_8 : decode cJx35411_next_0502b 8 = .ok (.istore_n 1, 1) := by decide +kernel
theorem dJx35411_next_0502b_9 : decode cJx35411_next_0502b 9 = .ok (.iload_n 1, 1) := by decide +kernel
theorem dJx35411_next_0502b_10 : decode cJx35411_next_0502b 10 = .ok (.aload_n 0, 1) := by decide +kernel
theorem dJx35411_next_0502b_11 : decode cJx35411_next_0502b 11 = .ok (.getfield 1, 3) := by decide +kernel
theorem dJx35411_next_0502b_14 : decode cJx35411_next_0502b 14 = .ok (.getfield 28, 3) := by decide +kernel
theorem dJx35411_next_0502b_17 : decode cJx35411_next_0502b 17 = .ok (.if_icmp .lt 11, 3) := by decide +kernel
theorem dJx35411_next_0502b_28 : decode cJx35411_next_0502b 28 = .ok (.aload_n 0, 1) := by decide +kernel
theorem dJx35411_next_0502b_29 : decode cJx35411_next_0502b 29 = .ok (.getfield 1, 3) := by decide +kernel
theorem dJx35411_next_0502b_32 : decode cJx35411_next_0502b 32 = .ok (.getfield 37, 3) := by decide +kernel
theorem dJx35411_next_0502b_35 : decode cJx35411_next_0502b 35 = .ok (.astore_n 2, 1) := by decide +kernel
theorem dJx35411_next_0502b_36 : decode cJx35411_next_0502b 36 = .ok (.iload_n 1, 1) := by decide +kernel
theorem dJx35411_next_0502b_37 : decode cJx35411_next_0502b 37 = .ok (.aload_n 2, 1) := by decide +kernel
theorem dJx35411_next_0502b_38 : decode cJx35411_next_0502b 38 = .ok (.arraylength, 1) := by decide +kernel
theorem dJx35411_next_0502b_39 : decode cJx35411_next_0502b 39 = .ok (.if_icmp .lt 11, 3) := by decide +kernel
theorem dJx35411_next_0502b_50 : decode cJx35411_next_0502b 50 = .ok (.aload_n 0, 1) := by decide +kernel
theorem dJx35411_next_0502b_51 : decode cJx35411_next_0502b 51 = .ok (.iload_n 1, 1) := by decide +kernel
theorem dJx35411_next_0502b_52 : decode cJx35411_next_0502b 52 = .ok (.iconst 1, 1) := by decide +kernel
theorem dJx35411_next_0502b_53 : decode cJx35411_next_0502b 53 = .ok (.iadd, 1) := by decide +kernel
theorem dJx35411_next_0502b_54 : decode cJx35411_next_0502b 54 = .ok (.putfield 25, 3) := by decide +kernel
theorem dJx35411_next_0502b_57 : decode cJx35411_next_0502b 57 = .ok (.aload_n 2, 1) := by decide +kernel
theorem dJx35411_next_0502b_58 : decode cJx35411_next_0502b 58 = .ok (.aload_n 0, 1) := by decide +kernel
theorem dJx35411_next_0502b_59 : decode cJx35411_next_0502b 59 = .ok (.iload_n 1, 1) := by decide +kernel
theorem dJx35411_next_0502b_60 : decode cJx35411_next_0502b 60 = .ok (.dup_x1, 1) := by decide +kernel
theorem dJx35411_next_0502b_61 : decode cJx35411_next_0502b 61 = .ok (.putfield 13, 3) := by decide +kernel
theorem dJx35411_next_0502b_64 : decode cJx35411_next_0502b 64 = .ok (.aaload, 1) := by decide +kernel
theorem dJx35411_next_0502b_65 : decode cJx35411_next_0502b 65 = .ok (.areturn, 1) := by decide +kernel
theorem dJx4a65c_addAll_f0b43_0 : decode cJx4a65c_addAll_f0b43 0 = .ok (.aload_n 1, 1) := by decide +kernel
theorem dJx4a65c_addAll_f0b43_1 : decode cJx4a65c_addAll_f0b43 1 = .ok (.invokeinterface 42 1, 5) := by decide +kernel
theorem dJx4a65c_addAll_f0b43_6 : decode cJx4a65c_addAll_f0b43 6 = .ok (.astore_n 2, 1) := by decide +kernel
theorem dJx4a65c_addAll_f0b43_7 : decode cJx4a65c_addAll_f0b43 7 = .ok (.aload_n 0, 1) := by decide +kernel
theorem dJx4a65c_addAll_f0b43_8 : decode cJx4a65c_addAll_f0b43 8 = .ok (.dup, 1) := by decide +kernel
theorem dJx4a65c_addAll_f0b43_9 : decode cJx4a65c_addAll_f0b43 9 = .ok (.getfield 63, 3) := by decide +kernel
theorem dJx4a65c_addAll_f0b43_12 : decode cJx4a65c_addAll_f0b43 12 = .ok (.iconst 1, 1) := by decide +kernel
theorem dJx4a65c_addAll_f0b43_13 : decode cJx4a65c_addAll_f0b43 13 = .ok (.iadd, 1) := by decide +kernel
theorem dJx4a65c_addAll_f0b43_14 : decode cJx4a65c_addAll_f0b43 14 = .ok (.putfield 63, 3) := by decide +kernel
theorem dJx4a65c_addAll_f0b43_17 : decode cJx4a65c_addAll_f0b43 17 = .ok (.aload_n 2, 1) := by decide +kernel
theorem dJx4a65c_addAll_f0b43_18 : decode cJx4a65c_addAll_f0b43 18 = .ok (.arraylength, 1) := by decide +kernel
theorem dJx4a65c_addAll_f0b43_19 : decode cJx4a65c_addAll_f0b43 19 = .ok (.istore_n 3, 1) := by decide +kernel
theorem dJx4a65c_addAll_f0b43_20 : decode cJx4a65c_addAll_f0b43 20 = .ok (.iload_n 3, 1) := by decide +kernel
theorem dJx4a65c_addAll_f0b43_21 : decode cJx4a65c_addAll_f0b43 21 = .ok (.ifCond .ne 5, 3) := by decide +kernel
theorem dJx4a65c_addAll_f0b43_24 : decode cJx4a65c_addAll_f0b43 24 = .ok (.iconst 0, 1) := by decide +kernel
theorem dJx4a65c_addAll_f0b43_25 : decode cJx4a65c_addAll_f0b43 25 = .ok (.ireturn, 1) := by decide +kernel
theorem dJx4a65c_add_72be8_0 : decode cJx4a65c_add_72be8 0 = .ok (.iload_n 3, 1) := by decide +kernel
theorem dJx4a65c_add_72be8_1 : decode cJx4a65c_add_72be8 1 = .ok (.aload_n 2, 1) := by decide +kernel
theorem dJx4a65c_add_72be8_2 : decode cJx4a65c_add_72be8 2 = .ok (.arraylength, 1) := by decide +kernel
theorem dJx4a65c_add_72be8_3 : decode cJx4a65c_add_72be8 3 = .ok (.if_icmp .ne 8, 3) := by decide +kernel
theorem dJx4a65c_add_72be8_6 : decode cJx4a65c_add_72be8 6 = .ok (.aload_n 0, 1) := by decide +kernel
theorem dJx4a65c_add_72be8_7 : decode cJx4a65c_add_72be8 7 = .ok (.invokevirtual 129, 3) := by decide +kernel
theorem dJx4a65c_add_72be8_10 : decode cJx4a65c_add_72be8 10 = .ok (.astore_n 2, 1) := by decide +kernel
theorem dJx4a65c_add_72be8_11 : decode cJx4a65c_add_72be8 11 = .ok (.aload_n 2, 1) := by decide +kernel
theorem dJx4a65c_add_72be8_12 : decode cJx4a65c_add_72be8 12 = .ok (.iload_n 3, 1) := by decide +kernel
theorem dJx4a65c_add_72be8_13 : decode cJx4a65c_add_72be8 13 = .ok (.aload_n 1, 1) := by decide +kernel
theorem dJx4a65c_add_72be8_14 : decode cJx4a65c_add_72be8 14 = .ok (.aastore, 1) := by decide +kernel
theorem dJx4a65c_add_72be8_15 : decode cJx4a65c_add_72be8 15 = .ok (.aload_n 0, 1) := by decide +kernel
theorem dJx4a65c_add_72be8_16 : decode cJx4a65c_add_72be8 16 = .ok (.iload_n 3, 1) := by decide +kernel
theorem dJx4a65c_add_72be8_17 : decode cJx4a65c_add_72be8 17 = .ok (.iconst 1, 1) := by decide +kernel
theorem dJx4a65c_add_72be8_18 : decode cJx4a65c_add_72be8 18 = .ok (.iadd, 1) := by decide +kernel
theorem dJx4a65c_add_72be8_19 : decode cJx4a65c_add_72be8 19 = .ok (.putfield 48, 3) := by decide +kernel
theorem dJx4a65c_add_72be8_22 : decode cJx4a65c_add_72be8 22 = .ok (.return_, 1) := by decide +kernel
theorem dJx4a65c_add_9ea2d_0 : decode cJx4a65c_add_9ea2d 0 = .ok (.aload_n 0, 1) := by decide +kernel
theorem dJx4a65c_add_9ea2d_1 : decode cJx4a65c_add_9ea2d 1 = .ok (.dup, 1) := by decide +kernel
theorem dJx4a65c_add_9ea2d_2 : decode cJx4a65c_add_9ea2d 2 = .ok (.getfield 63, 3) := by decide +kernel
theorem dJx4a65c_add_9ea2d_5 : decode cJx4a65c_add_9ea2d 5 = .ok (.iconst 1, 1) := by decide +kernel
theorem dJx4a65c_add_9ea2d_6 : decode cJx4a65c_add_9ea2d 6 = .ok (.iadd, 1) := by decide +kernel
theorem dJx4a65c_add_9ea2d_7 : decode cJx4a65c_add_9ea2d 7 = .ok (.putfield 63, 3) := by decide +kernel
theorem dJx4a65c_add_9ea2d_10 : decode cJx4a65c_add_9ea2d 10 = .ok (.aload_n 0, 1) := by decide +kernel
theorem dJx4a65c_add_9ea2d_11 : decode cJx4a65c_add_9ea2d 11 = .ok (.aload_n 1, 1) := by decide +kernel
theorem dJx4a65c_add_9ea2d_12 : decode cJx4a65c_add_9ea2d 12 = .ok (.aload_n 0, 1) := by decide +kernel
theorem dJx4a65c_add_9ea2d_13 : decode cJx4a65c_add_9ea2d 13 = .ok (.getfield 9, 3) := by decide +kernel
theorem dJx4a65c_add_9ea2d_16 : decode cJx4a65c_add_9ea2d 16 = .ok (.aload_n 0, 1) := by decide +kernel
theorem dJx4a65c_add_9ea2d_17 : decode cJx4a65c_add_9ea2d 17 = .ok (.getfield 48, 3) := by decide +kernel
theorem dJx4a65c_add_9ea2d_20 : decode cJx4a65c_add_9ea2d 20 = .ok (.invokevirtual 131, 3) := by decide +kernel
theorem dJx4a65c_add_9ea2d_23 : decode cJx4a65c_add_9ea2d 23 = .ok (.iconst 1, 1) := by decide +kernel
theorem dJx4a65c_add_9ea2d_24 : decode cJx4a65c_add_9ea2d 24 = .ok (.ireturn, 1) := by decide +kernel
theorem dJx4a65c_clear_da8c8_0 : decode cJx4a65c_clear_da8c8 0 = .ok (.aload_n 0, 1) := by decide +kernel
theorem dJx4a65c_clear_da8c8_1 : decode cJx4a65c_clear_da8c8 1 = .ok (.dup, 1) := by decide +kernel
theorem dJx4a65c_clear_da8c8_2 : decode cJx4a65c_clear_da8c8 2 = .ok (.getfield 63, 3) := by decide +kernel
theorem dJx4a65c_clear_da8c8_5 : decode cJx4a65c_clear_da8c8 5 = .ok (.iconst 1, 1) := by decide +kernel
theorem dJx4a65c_clear_da8c8_6 : decode cJx4a65c_clear_da8c8 6 = .ok (.iadd, 1) := by decide +kernel
theorem dJx4a65c_clear_da8c8_7 : decode cJx4a65c_clear_da8c8 7 = .ok (.putfield 63, 3) := by decide +kernel
theorem dJx4a65c_clear_da8c8_10 : decode cJx4a65c_clear_da8c8 10 = .ok (.aload_n 0, 1) := by decide +kernel
theorem dJx4a65c_clear_da8c8_11 : decode cJx4a65c_clear_da8c8 11 = .ok (.getfield 9, 3) := by decide +kernel
theorem dJx4a65c_clear_da8c8_14 : decode cJx4a65c_clear_da8c8 14 = .ok (.astore_n 1, 1) := by decide +kernel
theorem dJx4a65c_clear_da8c8_15 : decode cJx4a65c_clear_da8c8 15 = .ok (.aload_n 0, 1) := by decide +kernel
theorem dJx4a65c_clear_da8c8_16 : decode cJx4a65c_clear_da8c8 16 = .ok (.getfield 48, 3) := by decide +kernel
theorem dJx4a65c_clear_da8c8_19 : decode cJx4a65c_clear_da8c8 19 = .ok (.istore_n 2, 1) := by decide +kernel
theorem dJx4a65c_clear_da8c8_20 : decode cJx4a65c_clear_da8c8 20 = .ok (.aload_n 0, 1) := by decide +kernel
theorem dJx4a65c_clear_da8c8_21 : decode cJx4a65c_clear_da8c8 21 = .ok (.iconst 0, 1) := by decide +kernel
theorem dJx4a65c_clear_da8c8_22 : decode cJx4a65c_clear_da8c8 22 = .ok (.dup_x1, 1) := by decide +kernel
theorem dJx4a65c_clear_da8c8_23 : decode cJx4a65c_clear_da8c8 23 = .ok (.putfield 48, 3) := by decide +kernel
theorem dJx4a65c_clear_da8c8_26 : decode cJx4a65c_clear_da8c8 26 = .ok (.istore_n 3, 1) := by decide +kernel
theorem dJx4a65c_clear_da8c8_27 : decode cJx4a65c_clear_da8c8 27 = .ok (.iload_n 3, 1) := by decide +kernel
theorem dJx4a65c_clear_da8c8_28 : decode cJx4a65c_clear_da8c8 28 = .ok (.iload_n 2, 1) := by decide +kernel
theorem dJx4a65c_clear_da8c8_29 : decode cJx4a65c_clear_da8c8 29 = .ok (.if_icmp .ge 13, 3) := by decide +kernel
theorem dJx4a65c_clear_da8c8_32 : decode cJx4a65c_clear_da8c8 32 = .ok (.aload_n 1, 1) := by decide +kernel
theorem dJx4a65c_clear_da8c8_33 : decode cJx4a65c_clear_da8c8 33 = .ok (.iload_n 3, 1) := by decide +kernel
theorem dJx4a65c_clear_da8c8_34 : decode cJx4a65c_clear_da8c8 34 = .ok (.aconst_null, 1) := by decide +kernel
theorem dJx4a65c_clear_da8c8_35 : decode cJx4a65c_clear_da8c8 35 = .ok (.aastore, 1) := by decide +kernel
theorem dJx4a65c_clear_da8c8_36 : decode cJx4a65c_clear_da8c8 36 = .ok (.iinc 3 1, 3) := by decide +kernel
theorem dJx4a65c_clear_da8c8_39 : decode cJx4a65c_clear_da8c8 39 = .ok (.goto (-12), 3) := by decide +kernel
theorem dJx4a65c_clear_da8c8_42 : decode cJx4a65c_clear_da8c8 42 = .ok (.return_, 1) := by decide +kernel
theorem dJx4a65c_elementData_915e3_0 : decode cJx4a65c_elementData_915e3 0 = .ok (.aload_n 0, 1) := by decide +kernel
theorem dJx4a65c_elementData_915e3_1 : decode cJx4a65c_elementData_915e3 1 = .ok (.getfield 9, 3) := by decide +kernel
theorem dJx4a65c_elementData_915e3_4 : decode cJx4a65c_elementData_915e3 4 = .ok (.iload_n 1, 1) := by decide +kernel
theorem dJx4a65c_elementData_915e3_5 : decode cJx4a65c_elementData_915e3 5 = .ok (.aaload, 1) := by decide +kernel
theorem dJx4a65c_elementData_915e3_6 : decode cJx4a65c_elementData_915e3 6 = .ok (.areturn, 1) := by decide +kernel
theorem dJx4a65c_get_915e3_0 : decode cJx4a65c_get_915e3 0 = .ok (.iload_n 1, 1) := by decide +kernel
theorem dJx4a65c_get_915e3_1 : decode cJx4a65c_get_915e3 1 = .ok (.aload_n 0, 1) := by decide +kernel
theorem dJx4a65c_get_915e3_2 : decode cJx4a65c_get_915e3 2 = .ok (.getfield 48, 3) := by decide +kernel
theorem dJx4a65c_get_915e3_5 : decode cJx4a65c_get_915e3 5 = .ok (.invokestatic 118, 3) := by decide +kernel
theorem dJx4a65c_get_915e3_8 : decode cJx4a65c_get_915e3 8 = .ok (.pop, 1) := by decide +kernel
theorem dJx4a65c_get_915e3_9 : decode cJx4a65c_get_915e3 9 = .ok (.aload_n 0, 1) := by decide +kernel
theorem dJx4a65c_get_915e3_10 : decode cJx4a65c_get_915e3 10 = .ok (.iload_n 1, 1) := by decide +kernel
theorem dJx4a65c_get_915e3_11 : decode cJx4a65c_get_915e3 11 = .ok (.invokevirtual 123, 3) := by decide +kernel
theorem dJx4a65c_get_915e3_14 : decode cJx4a65c_get_915e3 14 = .ok (.areturn, 1) := by decide +kernel
theorem dJx4a65c_grow_92f84_0 : decode cJx4a65c_grow_92f84 0 = .ok (.aload_n 0, 1) := by decide +kernel
theorem dJx4a65c_grow_92f84_1 : decode cJx4a65c_grow_92f84 1 = .ok (.getfield 9, 3) := by decide +kernel
theorem dJx4a65c_grow_92f84_4 : decode cJx4a65c_grow_92f84 4 = .ok (.arraylength, 1) := by decide +kernel
theorem dJx4a65c_grow_92f84_5 : decode cJx4a65c_grow_92f84 5 = .ok (.istore_n 2, 1) := by decide +kernel
theorem dJx4a65c_grow_92f84_6 : decode cJx4a65c_grow_92f84 6 = .ok (.iload_n 2, 1) := by decide +kernel
theorem dJx4a65c_grow_92f84_7 : decode cJx4a65c_grow_92f84 7 = .ok (.ifCond .gt 13, 3) := by decide +kernel
theorem dJx4a65c_grow_92f84_10 : decode cJx4a65c_grow_92f84 10 = .ok (.aload_n 0, 1) := by decide +kernel
theorem dJx4a65c_grow_92f84_11 : decode cJx4a65c_grow_92f84 11 = .ok (.getfield 9, 3) := by decide +kernel
theorem dJx4a65c_grow_92f84_14 : decode cJx4a65c_grow_92f84 14 = .ok (.getstatic 39, 3) := by decide +kernel
theorem dJx4a65c_grow_92f84_17 : decode cJx4a65c_grow_92f84 17 = .ok (.if_acmp .eq 28, 3) := by decide +kernel
theorem dJx4a65c_grow_92f84_45 : decode cJx4a65c_grow_92f84 45 = .ok (.aload_n 0, 1) := by decide +kernel
theorem dJx4a65c_grow_92f84_46 : decode cJx4a65c_grow_92f84 46 = .ok (.bipush 10, 2) := by decide +kernel
theorem dJx4a65c_grow_92f84_48 : decode cJx4a65c_grow_92f84 48 = .ok (.iload_n 1, 1) := by decide +kernel
theorem dJx4a65c_grow_92f84_49 : decode cJx4a65c_grow_92f84 49 = .ok (.invokestatic 79, 3) := by decide +kernel
theorem dJx4a65c_grow_92f84_52 : decode cJx4a65c_grow_92f84 52 = .ok (.anewarray 7, 3) := by decide +kernel
theorem dJx4a65c_grow_92f84_55 : decode cJx4a65c_grow_92f84 55 = .ok (.dup_x1, 1) := by decide +kernel
theorem dJx4a65c_grow_92f84_56 : decode cJx4a65c_grow_92f84 56 = .ok (.putfield 9, 3) := by decide +kernel
theorem dJx4a65c_grow_92f84_59 : decode cJx4a65c_grow_92f84 59 = .ok (.areturn, 1) := by decide +kernel
theorem dJx4a65c_grow_d5877_0 : decode cJx4a65c_grow_d5877 0 = .ok (.aload_n 0, 1) := by decide +kernel
theorem dJx4a65c_grow_d5877_1 : decode cJx4a65c_grow_d5877 1 = .ok (.aload_n 0, 1) := by decide +kernel
theorem dJx4a65c_grow_d5877_2 : decode cJx4a65c_grow_d5877 2 = .ok (.getfield 48, 3) := by decide +kernel
theorem dJx4a65c_grow_d5877_5 : decode cJx4a65c_grow_d5877 5 = .ok (.iconst 1, 1) := by decide +kernel
theorem dJx4a65c_grow_d5877_6 : decode cJx4a65c_grow_d5877 6 = .ok (.iadd, 1) := by decide +kernel
theorem dJx4a65c_grow_d5877_7 : decode cJx4a65c_grow_d5877 7 = .ok (.invokevirtual 69, 3) := by decide +kernel
theorem dJx4a65c_grow_d5877_10 : decode cJx4a65c_grow_d5877 10 = .ok (.areturn, 1) := by decide +kernel
theorem dJx4a65c_init_da8c8_0 : decode cJx4a65c_init_da8c8 0 = .ok (.aload_n 0, 1) := by decide +kernel
theorem dJx4a65c_init_da8c8_1 : decode cJx4a65c_init_da8c8 1 = .ok (.invokespecial 1, 3) := by decide +kernel
theorem dJx4a65c_init_da8c8_4 : decode cJx4a65c_init_da8c8 4 = .ok (.aload_n 0, 1) := by decide +kernel
theorem dJx4a65c_init_da8c8_5 : decode cJx4a65c_init_da8c8 5 = .ok (.getstatic 39, 3) := by decide +kernel
theorem dJx4a65c_init_da8c8_8 : decode cJx4a65c_init_da8c8 8 = .ok (.putfield 9, 3) := by decide +kernel
theorem dJx4a65c_init_da8c8_11 : decode cJx4a65c_init_da8c8 11 = .ok (.return_, 1) := by decide +kernel
theorem dJx4a65c_isEmpty_aae02_0 : decode cJx4a65c_isEmpty_aae02 0 = .ok (.aload_n 0, 1) := by decide +kernel
theorem dJx4a65c_isEmpty_aae02_1 : decode cJx4a65c_isEmpty_aae02 1 = .ok (.getfield 48, 3) := by decide +kernel
theorem dJx4a65c_isEmpty_aae02_4 : decode cJx4a65c_isEmpty_aae02 4 = .ok (.ifCond .ne 7, 3) := by decide +kernel
theorem dJx4a65c_isEmpty_aae02_7 : decode cJx4a65c_isEmpty_aae02 7 = .ok (.iconst 1, 1) := by decide +kernel
theorem dJx4a65c_isEmpty_aae02_8 : decode cJx4a65c_isEmpty_aae02 8 = .ok (.goto 4, 3) := by decide +kernel
theorem dJx4a65c_isEmpty_aae02_12 : decode cJx4a65c_isEmpty_aae02 12 = .ok (.ireturn, 1) := by decide +kernel
theorem dJx4a65c_iterator_32c93_0 : decode cJx4a65c_iterator_32c93 0 = .ok (.new 267, 3) := by decide +kernel
theorem dJx4a65c_iterator_32c93_3 : decode cJx4a65c_iterator_32c93 3 = .ok (.dup, 1) := by decide +kernel
theorem dJx4a65c_iterator_32c93_4 : decode cJx4a65c_iterator_32c93 4 = .ok (.aload_n 0, 1) := by decide +kernel
theorem dJx4a65c_iterator_32c93_5 : decode cJx4a65c_iterator_32c93 5 = .ok (.invokespecial 269, 3) := by decide +kernel
theorem dJx4a65c_iterator_32c93_8 : decode cJx4a65c_iterator_32c93 8 = .ok (.areturn, 1) := by decide +kernel
theorem dJx4a65c_size_8abf5_0 : decode cJx4a65c_size_8abf5 0 = .ok (.aload_n 0, 1) := by decide +kernel
theorem dJx4a65c_size_8abf5_1 : decode cJx4a65c_size_8abf5 1 = .ok (.getfield 48, 3) := by decide +kernel
theorem dJx4a65c_size_8abf5_4 : decode cJx4a65c_size_8abf5 4 = .ok (.ireturn, 1) := by decide +kernel
theorem dJx4a65c_toArray_d5877_0 : decode cJx4a65c_toArray_d5877 0 = .ok (.aload_n 0, 1) := by decide +kernel
theorem dJx4a65c_toArray_d5877_1 : decode cJx4a65c_toArray_d5877 1 = .ok (.getfield 9, 3) := by decide +kernel
theorem dJx4a65c_toArray_d5877_4 : decode cJx4a65c_toArray_d5877 4 = .ok (.aload_n 0, 1) := by decide +kernel
theorem dJx4a65c_toArray_d5877_5 : decode cJx4a65c_toArray_d5877 5 = .ok (.getfield 48, 3) := by decide +kernel
theorem dJx4a65c_toArray_d5877_8 : decode cJx4a65c_toArray_d5877 8 = .ok (.invokestatic 66, 3) := by decide +kernel
theorem dJx4a65c_toArray_d5877_11 : decode cJx4a65c_toArray_d5877 11 = .ok (.areturn, 1) := by decide +kernel
theorem dJxa1e45_init_da8c8_0 : decode cJxa1e45_init_da8c8 0 = .ok (.aload_n 0, 1) := by decide +kernel
theorem dJxa1e45_init_da8c8_1 : decode cJxa1e45_init_da8c8 1 = .ok (.invokespecial 1, 3) := by decide +kernel
theorem dJxa1e45_init_da8c8_4 : decode cJxa1e45_init_da8c8 4 = .ok (.return_, 1) := by decide +kernel
theorem dJxc12de_init_da8c8_0 : decode cJxc12de_init_da8c8 0 = .ok (.aload_n 0, 1) := by decide +kernel
theorem dJxc12de_init_da8c8_1 : decode cJxc12de_init_da8c8 1 = .ok (.invokespecial 1, 3) := by decide +kernel
theorem dJxc12de_init_da8c8_4 : decode cJxc12de_init_da8c8 4 = .ok (.aload_n 0, 1) := by decide +kernel
theorem dJxc12de_init_da8c8_5 : decode cJxc12de_init_da8c8 5 = .ok (.iconst 0, 1) := by decide +kernel
theorem dJxc12de_init_da8c8_6 : decode cJxc12de_init_da8c8 6 = .ok (.putfield 7, 3) := by decide +kernel
theorem dJxc12de_init_da8c8_9 : decode cJxc12de_init_da8c8 9 = .ok (.return_, 1) := by decide +kernel
theorem dJxd2413_init_da8c8_0 : decode cJxd2413_init_da8c8 0 = .ok (.aload_n 0, 1) := by decide +kernel
theorem dJxd2413_init_da8c8_1 : decode cJxd2413_init_da8c8 1 = .ok (.invokespecial 1, 3) := by decide +kernel
theorem dJxd2413_init_da8c8_4 : decode cJxd2413_init_da8c8 4 = .ok (.return_, 1) := by decide +kernel
theorem dL_agree_0 : decode cL_agree 0 = .ok (.aload_n 2, 1) := by decide +kernel
theorem dL_agree_1 : decode cL_agree 1 = .ok (.iconst 0, 1) := by decide +kernel
theorem dL_agree_2 : decode cL_agree 2 = .ok (.aload_n 0, 1) := by decide +kernel
theorem dL_agree_3 : decode cL_agree 3 = .ok (.iload_n 1, 1) := by decide +kernel
theorem dL_agree_4 : decode cL_agree 4 = .ok (.invokevirtual 124, 3) := by decide +kernel
theorem dL_agree_7 : decode cL_agree 7 = .ok (.ifCond .eq 7, 3) := by decide +kernel
theorem dL_agree_10 : decode cL_agree 10 = .ok (.lconst 1, 1) := by decide +kernel
theorem dL_agree_11 : decode cL_agree 11 = .ok (.goto 4, 3) := by decide +kernel
theorem dL_agree_15 : decode cL_agree 15 = .ok (.lastore, 1) := by decide +kernel
theorem dL_agree_16 : decode cL_agree 16 = .ok (.goto 9, 3) := by decide +kernel
theorem dL_agree_19 : decode cL_agree 19 = .ok (.astore_n 3, 1) := by decide +kernel
theorem dL_agree_20 : decode cL_agree 20 = .ok (.iconst 1, 1) := by decide +kernel
theorem dL_agree_21 : decode cL_agree 21 = .ok (.ireturn, 1) := by decide +kernel
theorem dL_agree_25 : decode cL_agree 25 = .ok (.iconst 0, 1) := by decide +kernel
theorem dL_agree_26 : decode cL_agree 26 = .ok (.ireturn, 1) := by decide +kernel
theorem dL_blocks_0 : decode cL_blocks 0 = .ok (.aload_n 2, 1) := by decide +kernel
theorem dL_blocks_1 : decode cL_blocks 1 = .ok (.iconst 0, 1) := by decide +kernel
theorem dL_blocks_2 : decode cL_blocks 2 = .ok (.aload_n 0, 1) := by decide +kernel
theorem dL_blocks_3 : decode cL_blocks 3 = .ok (.iload_n 1, 1) := by decide +kernel
theorem dL_blocks_4 : decode cL_blocks 4 = .ok (.invokevirtual 59, 3) := by decide +kernel
theorem dL_blocks_12 : decode cL_blocks 12 = .ok (.astore_n 3, 1) := by decide +kernel
theorem dL_blocks_13 : decode cL_blocks 13 = .ok (.iconst 1, 1) := by decide +kernel
theorem dL_blocks_14 : decode cL_blocks 14 = .ok (.ireturn, 1) := by decide +kernel
theorem dL_byteAt_0 : decode cL_byteAt 0 = .ok (.aload_n 2, 1) := by decide +kernel
theorem dL_byteAt_1 : decode cL_byteAt 1 = .ok (.iconst 0, 1) := by decide +kernel
theorem dL_byteAt_2 : decode cL_byteAt 2 = .ok (.aload_n 0, 1) := by decide +kernel
theorem dL_byteAt_3 : decode cL_byteAt 3 = .ok (.iload_n 1, 1) := by decide +kernel
theorem dL_byteAt_4 : decode cL_byteAt 4 = .ok (.invokevirtual 23, 3) := by decide +kernel
theorem dL_byteAt_12 : decode cL_byteAt 12 = .ok (.astore_n 3, 1) := by decide +kernel
theorem dL_byteAt_13 : decode cL_byteAt 13 = .ok (.iconst 1, 1) := by decide +kernel
theorem dL_byteAt_14 : decode cL_byteAt 14 = .ok (.ireturn, 1) := by decide +kernel
theorem dL_calls_0 : decode cL_calls 0 = .ok (.aload_n 3, 1) := by decide +kernel
theorem dL_calls_1 : decode cL_calls 1 = .ok (.iconst 0, 1) := by decide +kernel
theorem dL_calls_2 : decode cL_calls 2 = .ok (.aload_n 0, 1) := by decide +kernel
theorem dL_calls_3 : decode cL_calls 3 = .ok (.iload_n 1, 1) := by decide +kernel
theorem dL_calls_4 : decode cL_calls 4 = .ok (.iload_n 2, 1) := by decide +kernel
theorem dL_calls_5 : decode cL_calls 5 = .ok (.invokevirtual 56, 3) := by decide +kernel
theorem dL_calls_13 : decode cL_calls 13 = .ok (.astore 4, 2) := by decide +kernel
theorem dL_calls_15 : decode cL_calls 15 = .ok (.iconst 1, 1) := by decide +kernel
theorem dL_calls_16 : decode cL_calls 16 = .ok (.ireturn, 1) := by decide +kernel
theorem dL_codeShare_0 : decode cL_codeShare 0 = .ok (.aload_n 1, 1) := by decide +kernel
theorem dL_codeShare_1 : decode cL_codeShare 1 = .ok (.iconst 0, 1) := by decide +kernel
theorem dL_codeShare_2 : decode cL_codeShare 2 = .ok (.aload_n 0, 1) := by decide +kernel
theorem dL_codeShare_3 : decode cL_codeShare 3 = .ok (.invokevirtual 130, 3) := by decide +kernel
theorem dL_codeShare_11 : decode cL_codeShare 11 = .ok (.astore_n 2, 1) := by decide +kernel
theorem dL_codeShare_12 : decode cL_codeShare 12 = .ok (.iconst 1, 1) := by decide +kernel
theorem dL_codeShare_13 : decode cL_codeShare 13 = .ok (.ireturn, 1) := by decide +kernel
theorem dL_compiled_0 : decode cL_compiled 0 = .ok (.aload_n 1, 1) := by decide +kernel
theorem dL_compiled_1 : decode cL_compiled 1 = .ok (.iconst 0, 1) := by decide +kernel
theorem dL_compiled_2 : decode cL_compiled 2 = .ok (.aload_n 0, 1) := by decide +kernel
theorem dL_compiled_3 : decode cL_compiled 3 = .ok (.invokevirtual 107, 3) := by decide +kernel
theorem dL_compiled_6 : decode cL_compiled 6 = .ok (.i2l, 1) := by decide +kernel
theorem dL_compiled_7 : decode cL_compiled 7 = .ok (.lastore, 1) := by decide +kernel
theorem dL_compiled_8 : decode cL_compiled 8 = .ok (.goto 6, 3) := by decide +kernel
theorem dL_compiled_14 : decode cL_compiled 14 = .ok (.iconst 0, 1) := by decide +kernel
theorem dL_compiled_15 : decode cL_compiled 15 = .ok (.ireturn, 1) := by decide +kernel
theorem dL_compiledByte_0 : decode cL_compiledByte 0 = .ok (.aload_n 2, 1) := by decide +kernel
theorem dL_compiledByte_1 : decode cL_compiledByte 1 = .ok (.iconst 0, 1) := by decide +kernel
theorem dL_compiledByte_2 : decode cL_compiledByte 2 = .ok (.aload_n 0, 1) := by decide +kernel
theorem dL_compiledByte_3 : decode cL_compiledByte 3 = .ok (.iload_n 1, 1) := by decide +kernel
theorem dL_compiledByte_4 : decode cL_compiledByte 4 = .ok (.invokevirtual 111, 3) := by decide +kernel
theorem dL_compiledByte_7 : decode cL_compiledByte 7 = .ok (.i2l, 1) := by decide +kernel
theorem dL_compiledByte_8 : decode cL_compiledByte 8 = .ok (.lastore, 1) := by decide +kernel
theorem dL_compiledByte_9 : decode cL_compiledByte 9 = .ok (.goto 9, 3) := by decide +kernel
theorem dL_compiledByte_15 : decode cL_compiledByte 15 = .ok (.astore_n 3, 1) := by decide +kernel
theorem dL_compiledByte_16 : decode cL_compiledByte 16 = .ok (.iconst 2, 1) := by decide +kernel
theorem dL_compiledByte_17 : decode cL_compiledByte 17 = .ok (.ireturn, 1) := by decide +kernel
theorem dL_compiledByte_18 : decode cL_compiledByte 18 = .ok (.iconst 0, 1) := by decide +kernel
theorem dL_compiledByte_19 : decode cL_compiledByte 19 = .ok (.ireturn, 1) := by decide +kernel
theorem dL_depth_0 : decode cL_depth 0 = .ok (.aload_n 3, 1) := by decide +kernel
theorem dL_depth_1 : decode cL_depth 1 = .ok (.iconst 0, 1) := by decide +kernel
theorem dL_depth_2 : decode cL_depth 2 = .ok (.aload_n 0, 1) := by decide +kernel
theorem dL_depth_3 : decode cL_depth 3 = .ok (.iload_n 1, 1) := by decide +kernel
theorem dL_depth_4 : decode cL_depth 4 = .ok (.iload_n 2, 1) := by decide +kernel
theorem dL_depth_5 : decode cL_depth 5 = .ok (.invokevirtual 85, 3) := by decide +kernel
theorem dL_depth_13 : decode cL_depth 13 = .ok (.astore 4, 2) := by decide +kernel
theorem dL_depth_15 : decode cL_depth 15 = .ok (.iconst 1, 1) := by decide +kernel
theorem dL_depth_16 : decode cL_depth 16 = .ok (.ireturn, 1) := by decide +kernel
theorem dL_entry_0 : decode cL_entry 0 = .ok (.aload_n 2, 1) := by decide +kernel
theorem dL_entry_1 : decode cL_entry 1 = .ok (.iconst 0, 1) := by decide +kernel
theorem dL_entry_2 : decode cL_entry 2 = .ok (.aload_n 0, 1) := by decide +kernel
theorem dL_entry_3 : decode cL_entry 3 = .ok (.iload_n 1, 1) := by decide +kernel
theorem dL_entry_4 : decode cL_entry 4 = .ok (.invokevirtual 26, 3) := by decide +kernel
theorem dL_entry_12 : decode cL_entry 12 = .ok (.astore_n 3, 1) := by decide +kernel
theorem dL_entry_13 : decode cL_entry 13 = .ok (.iconst 1, 1) := by decide +kernel
theorem dL_entry_14 : decode cL_entry 14 = .ok (.ireturn, 1) := by decide +kernel
theorem dL_entryOf_0 : decode cL_entryOf 0 = .ok (.aload_n 2, 1) := by decide +kernel
theorem dL_entryOf_1 : decode cL_entryOf 1 = .ok (.iconst 0, 1) := by decide +kernel
theorem dL_entryOf_2 : decode cL_entryOf 2 = .ok (.aload_n 0, 1) := by decide +kernel
theorem dL_entryOf_3 : decode cL_entryOf 3 = .ok (.iload_n 1, 1) := by decide +kernel
theorem dL_entryOf_4 : decode cL_entryOf 4 = .ok (.invokevirtual 42, 3) := by decide +kernel
theorem dL_entryOf_12 : decode cL_entryOf 12 = .ok (.astore_n 3, 1) := by decide +kernel
theorem dL_entryOf_13 : decode cL_entryOf 13 = .ok (.iconst 1, 1) := by decide +kernel
theorem dL_entryOf_14 : decode cL_entryOf 14 = .ok (.ireturn, 1) := by decide +kernel
theorem dL_first_0 : decode cL_first 0 = .ok (.aload_n 3, 1) := by decide +kernel
theorem dL_first_1 : decode cL_first 1 = .ok (.iconst 0, 1) := by decide +kernel
theorem dL_first_2 : decode cL_first 2 = .ok (.aload_n 0, 1) := by decide +kernel
theorem dL_first_3 : decode cL_first 3 = .ok (.iload_n 1, 1) := by decide +kernel
theorem dL_first_4 : decode cL_first 4 = .ok (.iload_n 2, 1) := by decide +kernel
theorem dL_first_5 : decode cL_first 5 = .ok (.invokevirtual 62, 3) := by decide +kernel
theorem dL_first_13 : decode cL_first 13 = .ok (.astore 4, 2) := by decide +kernel
theorem dL_first_15 : decode cL_first 15 = .ok (.iconst 1, 1) := by decide +kernel
theorem dL_first_16 : decode cL_first 16 = .ok (.ireturn, 1) := by decide +kernel
theorem dL_functionOf_0 : decode cL_functionOf 0 = .ok (.aload_n 2, 1) := by decide +kernel
theorem dL_functionOf_1 : decode cL_functionOf 1 = .ok (.iconst 0, 1) := by decide +kernel
theorem dL_functionOf_2 : decode cL_functionOf 2 = .ok (.aload_n 0, 1) := by decide +kernel
theorem dL_functionOf_3 : decode cL_functionOf 3 = .ok (.iload_n 1, 1) := by decide +kernel
theorem dL_functionOf_4 : decode cL_functionOf 4 = .ok (.invokevirtual 45, 3) := by decide +kernel
theorem dL_functionOf_12 : decode cL_functionOf 12 = .ok (.astore_n 3, 1) := by decide +kernel
theorem dL_functionOf_13 : decode cL_functionOf 13 = .ok (.iconst 1, 1) := by decide +kernel
theorem dL_functionOf_14 : decode cL_functionOf 14 = .ok (.ireturn, 1) := by decide +kernel
theorem dL_input_0 : decode cL_input 0 = .ok (.aload_n 2, 1) := by decide +kernel
theorem dL_input_1 : decode cL_input 1 = .ok (.iconst 0, 1) := by decide +kernel
theorem dL_input_2 : decode cL_input 2 = .ok (.aload_n 0, 1) := by decide +kernel
theorem dL_input_3 : decode cL_input 3 = .ok (.iload_n 1, 1) := by decide +kernel
theorem dL_input_4 : decode cL_input 4 = .ok (.invokevirtual 114, 3) := by decide +kernel
theorem dL_input_7 : decode cL_input 7 = .ok (.i2l, 1) := by decide +kernel
theorem dL_input_8 : decode cL_input 8 = .ok (.lastore, 1) := by decide +kernel
theorem dL_input_9 : decode cL_input 9 = .ok (.goto 6, 3) := by decide +kernel
theorem dL_input_15 : decode cL_input 15 = .ok (.iconst 0, 1) := by decide +kernel
theorem dL_input_16 : decode cL_input 16 = .ok (.ireturn, 1) := by decide +kernel
theorem dL_isHead_0 : decode cL_isHead 0 = .ok (.aload_n 3, 1) := by decide +kernel
theorem dL_isHead_1 : decode cL_isHead 1 = .ok (.iconst 0, 1) := by decide +kernel
theorem dL_isHead_2 : decode cL_isHead 2 = .ok (.aload_n 0, 1) := by decide +kernel
theorem dL_isHead_3 : decode cL_isHead 3 = .ok (.iload_n 1, 1) := by decide +kernel
theorem dL_isHead_4 : decode cL_isHead 4 = .ok (.iload_n 2, 1) := by decide +kernel
theorem dL_isHead_5 : decode cL_isHead 5 = .ok (.invokevirtual 81, 3) := by decide +kernel
theorem dL_isHead_20 : decode cL_isHead 20 = .ok (.astore 4, 2) := by decide +kernel
theorem dL_isHead_22 : decode cL_isHead 22 = .ok (.iconst 1, 1) := by decide +kernel
theorem dL_isHead_23 : decode cL_isHead 23 = .ok (.ireturn, 1) := by decide +kernel
theorem dL_isIdle_0 : decode cL_isIdle 0 = .ok (.aload_n 3, 1) := by decide +kernel
theorem dL_isIdle_1 : decode cL_isIdle 1 = .ok (.iconst 0, 1) := by decide +kernel
theorem dL_isIdle_2 : decode cL_isIdle 2 = .ok (.aload_n 0, 1) := by decide +kernel
theorem dL_isIdle_3 : decode cL_isIdle 3 = .ok (.iload_n 1, 1) := by decide +kernel
theorem dL_isIdle_4 : decode cL_isIdle 4 = .ok (.iload_n 2, 1) := by decide +kernel
theorem dL_isIdle_5 : decode cL_isIdle 5 = .ok (.invokevirtual 97, 3) := by decide +kernel
theorem dL_isIdle_20 : decode cL_isIdle 20 = .ok (.astore 4, 2) := by decide +kernel
theorem dL_isIdle_22 : decode cL_isIdle 22 = .ok (.iconst 1, 1) := by decide +kernel
theorem dL_isIdle_23 : decode cL_isIdle 23 = .ok (.ireturn, 1) := by decide +kernel
theorem dL_isInDoubt_0 : decode cL_isInDoubt 0 = .ok (.aload_n 2, 1) := by decide +kernel
theorem dL_isInDoubt_1 : decode cL_isInDoubt 1 = .ok (.iconst 0, 1) := by decide +kernel
theorem dL_isInDoubt_2 : decode cL_isInDoubt 2 = .ok (.aload_n 0, 1) := by decide +kernel
theorem dL_isInDoubt_3 : decode cL_isInDoubt 3 = .ok (.iload_n 1, 1) := by decide +kernel
theorem dL_isInDoubt_4 : decode cL_isInDoubt 4 = .ok (.invokevirtual 35, 3) := by decide +kernel
theorem dL_isInDoubt_19 : decode cL_isInDoubt 19 = .ok (.astore_n 3, 1) := by decide +kernel
theorem dL_isInDoubt_20 : decode cL_isInDoubt 20 = .ok (.iconst 1, 1) := by decide +kernel
theorem dL_isInDoubt_21 : decode cL_isInDoubt 21 = .ok (.ireturn, 1) := by decide +kernel
theorem dL_isMeeting_0 : decode cL_isMeeting 0 = .ok (.aload_n 3, 1) := by decide +kernel
theorem dL_isMeeting_1 : decode cL_isMeeting 1 = .ok (.iconst 0, 1) := by decide +kernel
theorem dL_isMeeting_2 : decode cL_isMeeting 2 = .ok (.aload_n 0, 1) := by decide +kernel
theorem dL_isMeeting_3 : decode cL_isMeeting 3 = .ok (.iload_n 1, 1) := by decide +kernel
theorem dL_isMeeting_4 : decode cL_isMeeting 4 = .ok (.iload_n 2, 1) := by decide +kernel
theorem dL_isMeeting_5 : decode cL_isMeeting 5 = .ok (.invokevirtual 88, 3) := by decide +kernel
theorem dL_isMeeting_20 : decode cL_isMeeting 20 = .ok (.astore 4, 2) := by decide +kernel
theorem dL_isMeeting_22 : decode cL_isMeeting 22 = .ok (.iconst 1, 1) := by decide +kernel
theorem dL_isMeeting_23 : decode cL_isMeeting 23 = .ok (.ireturn, 1) := by decide +kernel
theorem dL_kind_0 : decode cL_kind 0 = .ok (.aload_n 2, 1) := by decide +kernel
theorem dL_kind_1 : decode cL_kind 1 = .ok (.iconst 0, 1) := by decide +kernel
theorem dL_kind_2 : decode cL_kind 2 = .ok (.aload_n 0, 1) := by decide +kernel
theorem dL_kind_3 : decode cL_kind 3 = .ok (.iload_n 1, 1) := by decide +kernel
theorem dL_kind_4 : decode cL_kind 4 = .ok (.invokevirtual 31, 3) := by decide +kernel
theorem dL_kind_12 : decode cL_kind 12 = .ok (.astore_n 3, 1) := by decide +kernel
theorem dL_kind_13 : decode cL_kind 13 = .ok (.iconst 1, 1) := by decide +kernel
theorem dL_kind_14 : decode cL_kind 14 = .ok (.ireturn, 1) := by decide +kernel
theorem dL_law_0 : decode cL_law 0 = .ok (.new 8, 3) := by decide +kernel
theorem dL_law_28 : decode cL_law 28 = .ok (.iload 5, 2) := by decide +kernel
theorem dL_law_30 : decode cL_law 30 = .ok (.aload_n 0, 1) := by decide +kernel
theorem dL_law_31 : decode cL_law 31 = .ok (.arraylength, 1) := by decide +kernel
theorem dL_law_32 : decode cL_law 32 = .ok (.iconst 4, 1) := by decide +kernel
theorem dL_law_33 : decode cL_law 33 = .ok (.isub, 1) := by decide +kernel
theorem dL_law_34 : decode cL_law 34 = .ok (.if_icmp .gt 2660, 3) := by decide +kernel
theorem dL_law_244 : decode cL_law 244 = .ok (.aload_n 1, 1) := by decide +kernel
theorem dL_law_245 : decode cL_law 245 = .ok (.aload_n 0, 1) := by decide +kernel
theorem dL_law_246 : decode cL_law 246 = .ok (.iload 5, 2) := by decide +kernel
theorem dL_law_248 : decode cL_law 248 = .ok (.iconst 1, 1) := by decide +kernel
theorem dL_law_249 : decode cL_law 249 = .ok (.iadd, 1) := by decide +kernel
theorem dL_law_250 : decode cL_law 250 = .ok (.iaload, 1) := by decide +kernel
theorem dL_law_251 : decode cL_law 251 = .ok (.aload_n 3, 1) := by decide +kernel
theorem dL_law_252 : decode cL_law 252 = .ok (.invokestatic 144, 3) := by decide +kernel
theorem dL_law_255 : decode cL_law 255 = .ok (.istore 6, 2) := by decide +kernel
theorem dL_law_257 : decode cL_law 257 = .ok (.aload_n 2, 1) := by decide +kernel
theorem dL_law_258 : decode cL_law 258 = .ok (.aload_n 0, 1) := by decide +kernel
theorem dL_law_259 : decode cL_law 259 = .ok (.iload 5, 2) := by decide +kernel
theorem dL_law_261 : decode cL_law 261 = .ok (.iconst 1, 1) := by decide +kernel
theorem dL_law_262 : decode cL_law 262 = .ok (.iadd, 1) := by decide +kernel
theorem dL_law_263 : decode cL_law 263 = .ok (.iaload, 1) := by decide +kernel
theorem dL_law_264 : decode cL_law 264 = .ok (.invokevirtual 149, 3) := by decide +kernel
theorem dL_law_267 : decode cL_law 267 = .ok (.istore 7, 2) := by decide +kernel
theorem dL_law_269 : decode cL_law 269 = .ok (.aload_n 2, 1) := by decide +kernel
theorem dL_law_270 : decode cL_law 270 = .ok (.invokevirtual 150, 3) := by decide +kernel
theorem dL_law_273 : decode cL_law 273 = .ok (.iload 6, 2) := by decide +kernel
theorem dL_law_275 : decode cL_law 275 = .ok (.if_icmp .eq 5, 3) := by decide +kernel
theorem dL_law_280 : decode cL_law 280 = .ok (.iload 6, 2) := by decide +kernel
theorem dL_law_282 : decode cL_law 282 = .ok (.ifCond .ne 15, 3) := by decide +kernel
theorem dL_law_285 : decode cL_law 285 = .ok (.aload_n 3, 1) := by decide +kernel
theorem dL_law_286 : decode cL_law 286 = .ok (.iconst 0, 1) := by decide +kernel
theorem dL_law_287 : decode cL_law 287 = .ok (.laload, 1) := by decide +kernel
theorem dL_law_288 : decode cL_law 288 = .ok (.iload 7, 2) := by decide +kernel
theorem dL_law_290 : decode cL_law 290 = .ok (.i2l, 1) := by decide +kernel
theorem dL_law_291 : decode cL_law 291 = .ok (.lcmp, 1) := by decide +kernel
theorem dL_law_292 : decode cL_law 292 = .ok (.ifCond .eq 5, 3) := by decide +kernel
theorem dL_law_297 : decode cL_law 297 = .ok (.goto 2391, 3) := by decide +kernel
theorem dL_law_300 : decode cL_law 300 = .ok (.aload_n 1, 1) := by decide +kernel
theorem dL_law_301 : decode cL_law 301 = .ok (.aload_n 0, 1) := by decide +kernel
theorem dL_law_302 : decode cL_law 302 = .ok (.iload 5, 2) := by decide +kernel
theorem dL_law_304 : decode cL_law 304 = .ok (.iconst 1, 1) := by decide +kernel
theorem dL_law_305 : decode cL_law 305 = .ok (.iadd, 1) := by decide +kernel
theorem dL_law_306 : decode cL_law 306 = .ok (.iaload, 1) := by decide +kernel
theorem dL_law_307 : decode cL_law 307 = .ok (.aload_n 0, 1) := by decide +kernel
theorem dL_law_308 : decode cL_law 308 = .ok (.iload 5, 2) := by decide +kernel
theorem dL_law_310 : decode cL_law 310 = .ok (.iconst 2, 1) := by decide +kernel
theorem dL_law_311 : decode cL_law 311 = .ok (.iadd, 1) := by decide +kernel
theorem dL_law_312 : decode cL_law 312 = .ok (.iaload, 1) := by decide +kernel
theorem dL_law_313 : decode cL_law 313 = .ok (.aload_n 3, 1) := by decide +kernel
theorem dL_law_314 : decode cL_law 314 = .ok (.invokestatic 153, 3) := by decide +kernel
theorem dL_law_317 : decode cL_law 317 = .ok (.istore 6, 2) := by decide +kernel
theorem dL_law_319 : decode cL_law 319 = .ok (.aload_n 2, 1) := by decide +kernel
theorem dL_law_320 : decode cL_law 320 = .ok (.aload_n 0, 1) := by decide +kernel
theorem dL_law_321 : decode cL_law 321 = .ok (.iload 5, 2) := by decide +kernel
theorem dL_law_323 : decode cL_law 323 = .ok (.iconst 1, 1) := by decide +kernel
theorem dL_law_324 : decode cL_law 324 = .ok (.iadd, 1) := by decide +kernel
theorem dL_law_325 : decode cL_law 325 = .ok (.iaload, 1) := by decide +kernel
theorem dL_law_326 : decode cL_law 326 = .ok (.aload_n 0, 1) := by decide +kernel
theorem dL_law_327 : decode cL_law 327 = .ok (.iload 5, 2) := by decide +kernel
theorem dL_law_329 : decode cL_law 329 = .ok (.iconst 2, 1) := by decide +kernel
theorem dL_law_330 : decode cL_law 330 = .ok (.iadd, 1) := by decide +kernel
theorem dL_law_331 : decode cL_law 331 = .ok (.iaload, 1) := by decide +kernel
theorem dL_law_332 : decode cL_law 332 = .ok (.invokevirtual 156, 3) := by decide +kernel
theorem dL_law_335 : decode cL_law 335 = .ok (.istore 7, 2) := by decide +kernel
theorem dL_law_337 : decode cL_law 337 = .ok (.aload_n 2, 1) := by decide +kernel
theorem dL_law_338 : decode cL_law 338 = .ok (.invokevirtual 150, 3) := by decide +kernel
theorem dL_law_341 : decode cL_law 341 = .ok (.iload 6, 2) := by decide +kernel
theorem dL_law_343 : decode cL_law 343 = .ok (.if_icmp .eq 5, 3) := by decide +kernel
theorem dL_law_348 : decode cL_law 348 = .ok (.iload 6, 2) := by decide +kernel
theorem dL_law_350 : decode cL_law 350 = .ok (.ifCond .ne 15, 3) := by decide +kernel
theorem dL_law_365 : decode cL_law 365 = .ok (.goto 2323, 3) := by decide +kernel
theorem dL_law_368 : decode cL_law 368 = .ok (.aload_n 1, 1) := by decide +kernel
theorem dL_law_369 : decode cL_law 369 = .ok (.invokevirtual 157, 3) := by decide +kernel
theorem dL_law_372 : decode cL_law 372 = .ok (.aload_n 2, 1) := by decide +kernel
theorem dL_law_373 : decode cL_law 373 = .ok (.invokevirtual 160, 3) := by decide +kernel
theorem dL_law_376 : decode cL_law 376 = .ok (.if_icmp .eq 2312, 3) := by decide +kernel
theorem dL_law_381 : decode cL_law 381 = .ok (.aload_n 1, 1) := by decide +kernel
theorem dL_law_382 : decode cL_law 382 = .ok (.aload_n 0, 1) := by decide +kernel
theorem dL_law_383 : decode cL_law 383 = .ok (.iload 5, 2) := by decide +kernel
theorem dL_law_385 : decode cL_law 385 = .ok (.iconst 1, 1) := by decide +kernel
theorem dL_law_386 : decode cL_law 386 = .ok (.iadd, 1) := by decide +kernel
theorem dL_law_387 : decode cL_law 387 = .ok (.iaload, 1) := by decide +kernel
theorem dL_law_388 : decode cL_law 388 = .ok (.aload_n 3, 1) := by decide +kernel
theorem dL_law_389 : decode cL_law 389 = .ok (.invokestatic 161, 3) := by decide +kernel
theorem dL_law_392 : decode cL_law 392 = .ok (.istore 6, 2) := by decide +kernel
theorem dL_law_394 : decode cL_law 394 = .ok (.aload_n 2, 1) := by decide +kernel
theorem dL_law_395 : decode cL_law 395 = .ok (.aload_n 0, 1) := by decide +kernel
theorem dL_law_396 : decode cL_law 396 = .ok (.iload 5, 2) := by decide +kernel
theorem dL_law_398 : decode cL_law 398 = .ok (.iconst 1, 1) := by decide +kernel
theorem dL_law_399 : decode cL_law 399 = .ok (.iadd, 1) := by decide +kernel
theorem dL_law_400 : decode cL_law 400 = .ok (.iaload, 1) := by decide +kernel
theorem dL_law_401 : decode cL_law 401 = .ok (.invokevirtual 163, 3) := by decide +kernel
theorem dL_law_404 : decode cL_law 404 = .ok (.istore 7, 2) := by decide +kernel
theorem dL_law_406 : decode cL_law 406 = .ok (.aload_n 2, 1) := by decide +kernel
theorem dL_law_407 : decode cL_law 407 = .ok (.invokevirtual 150, 3) := by decide +kernel
theorem dL_law_410 : decode cL_law 410 = .ok (.iload 6, 2) := by decide +kernel
theorem dL_law_412 : decode cL_law 412 = .ok (.if_icmp .eq 5, 3) := by decide +kernel
theorem dL_law_417 : decode cL_law 417 = .ok (.iload 6, 2) := by decide +kernel
theorem dL_law_419 : decode cL_law 419 = .ok (.ifCond .ne 15, 3) := by decide +kernel
theorem dL_law_434 : decode cL_law 434 = .ok (.goto 2254, 3) := by decide +kernel
theorem dL_law_437 : decode cL_law 437 = .ok (.aload_n 1, 1) := by decide +kernel
theorem dL_law_438 : decode cL_law 438 = .ok (.aload_n 0, 1) := by decide +kernel
theorem dL_law_439 : decode cL_law 439 = .ok (.iload 5, 2) := by decide +kernel
theorem dL_law_441 : decode cL_law 441 = .ok (.iconst 1, 1) := by decide +kernel
theorem dL_law_442 : decode cL_law 442 = .ok (.iadd, 1) := by decide +kernel
theorem dL_law_443 : decode cL_law 443 = .ok (.iaload, 1) := by decide +kernel
theorem dL_law_444 : decode cL_law 444 = .ok (.aload_n 3, 1) := by decide +kernel
theorem dL_law_445 : decode cL_law 445 = .ok (.invokestatic 164, 3) := by decide +kernel
theorem dL_law_448 : decode cL_law 448 = .ok (.istore 6, 2) := by decide +kernel
theorem dL_law_450 : decode cL_law 450 = .ok (.aload_n 2, 1) := by decide +kernel
theorem dL_law_451 : decode cL_law 451 = .ok (.aload_n 0, 1) := by decide +kernel
theorem dL_law_452 : decode cL_law 452 = .ok (.iload 5, 2) := by decide +kernel
theorem dL_law_454 : decode cL_law 454 = .ok (.iconst 1, 1) := by decide +kernel
theorem dL_law_455 : decode cL_law 455 = .ok (.iadd, 1) := by decide +kernel
theorem dL_law_456 : decode cL_law 456 = .ok (.iaload, 1) := by decide +kernel
theorem dL_law_457 : decode cL_law 457 = .ok (.invokevirtual 166, 3) := by decide +kernel
theorem dL_law_460 : decode cL_law 460 = .ok (.istore 7, 2) := by decide +kernel
theorem dL_law_462 : decode cL_law 462 = .ok (.aload_n 2, 1) := by decide +kernel
theorem dL_law_463 : decode cL_law 463 = .ok (.invokevirtual 150, 3) := by decide +kernel
theorem dL_law_466 : decode cL_law 466 = .ok (.iload 6, 2) := by decide +kernel
theorem dL_law_468 : decode cL_law 468 = .ok (.if_icmp .eq 5, 3) := by decide +kernel
theorem dL_law_473 : decode cL_law 473 = .ok (.iload 6, 2) := by decide +kernel
theorem dL_law_475 : decode cL_law 475 = .ok (.ifCond .ne 15, 3) := by decide +kernel
theorem dL_law_490 : decode cL_law 490 = .ok (.goto 2198, 3) := by decide +kernel
theorem dL_law_493 : decode cL_law 493 = .ok (.aload_n 1, 1) := by decide +kernel
theorem dL_law_494 : decode cL_law 494 = .ok (.aload_n 0, 1) := by decide +kernel
theorem dL_law_495 : decode cL_law 495 = .ok (.iload 5, 2) := by decide +kernel
theorem dL_law_497 : decode cL_law 497 = .ok (.iconst 1, 1) := by decide +kernel
theorem dL_law_498 : decode cL_law 498 = .ok (.iadd, 1) := by decide +kernel
theorem dL_law_499 : decode cL_law 499 = .ok (.iaload, 1) := by decide +kernel
theorem dL_law_500 : decode cL_law 500 = .ok (.aload_n 3, 1) := by decide +kernel
theorem dL_law_501 : decode cL_law 501 = .ok (.invokestatic 167, 3) := by decide +kernel
theorem dL_law_504 : decode cL_law 504 = .ok (.istore 6, 2) := by decide +kernel
theorem dL_law_506 : decode cL_law 506 = .ok (.aload_n 2, 1) := by decide +kernel
theorem dL_law_507 : decode cL_law 507 = .ok (.aload_n 0, 1) := by decide +kernel
theorem dL_law_508 : decode cL_law 508 = .ok (.iload 5, 2) := by decide +kernel
theorem dL_law_510 : decode cL_law 510 = .ok (.iconst 1, 1) := by decide +kernel
theorem dL_law_511 : decode cL_law 511 = .ok (.iadd, 1) := by decide +kernel
theorem dL_law_512 : decode cL_law 512 = .ok (.iaload, 1) := by decide +kernel
theorem dL_law_513 : decode cL_law 513 = .ok (.invokevirtual 169, 3) := by decide +kernel
theorem dL_law_516 : decode cL_law 516 = .ok (.istore 7, 2) := by decide +kernel
theorem dL_law_518 : decode cL_law 518 = .ok (.aload_n 2, 1) := by decide +kernel
theorem dL_law_519 : decode cL_law 519 = .ok (.invokevirtual 150, 3) := by decide +kernel
theorem dL_law_522 : decode cL_law 522 = .ok (.iload 6, 2) := by decide +kernel
theorem dL_law_524 : decode cL_law 524 = .ok (.if_icmp .eq 5, 3) := by decide +kernel
theorem dL_law_529 : decode cL_law 529 = .ok (.iload 6, 2) := by decide +kernel
theorem dL_law_531 : decode cL_law 531 = .ok (.ifCond .ne 15, 3) := by decide +kernel
theorem dL_law_546 : decode cL_law 546 = .ok (.goto 2142, 3) := by decide +kernel
theorem dL_law_549 : decode cL_law 549 = .ok (.aload_n 1, 1) := by decide +kernel
theorem dL_law_550 : decode cL_law 550 = .ok (.aload_n 0, 1) := by decide +kernel
theorem dL_law_551 : decode cL_law 551 = .ok (.iload 5, 2) := by decide +kernel
theorem dL_law_553 : decode cL_law 553 = .ok (.iconst 1, 1) := by decide +kernel
theorem dL_law_554 : decode cL_law 554 = .ok (.iadd, 1) := by decide +kernel
theorem dL_law_555 : decode cL_law 555 = .ok (.iaload, 1) := by decide +kernel
theorem dL_law_556 : decode cL_law 556 = .ok (.aload_n 3, 1) := by decide +kernel
theorem dL_law_557 : decode cL_law 557 = .ok (.invokestatic 170, 3) := by decide +kernel
theorem dL_law_560 : decode cL_law 560 = .ok (.istore 6, 2) := by decide +kernel
theorem dL_law_562 : decode cL_law 562 = .ok (.aload_n 2, 1) := by decide +kernel
theorem dL_law_563 : decode cL_law 563 = .ok (.aload_n 0, 1) := by decide +kernel
theorem dL_law_564 : decode cL_law 564 = .ok (.iload 5, 2) := by decide +kernel
theorem dL_law_566 : decode cL_law 566 = .ok (.iconst 1, 1) := by decide +kernel
theorem dL_law_567 : decode cL_law 567 = .ok (.iadd, 1) := by decide +kernel
theorem dL_law_568 : decode cL_law 568 = .ok (.iaload, 1) := by decide +kernel
theorem dL_law_569 : decode cL_law 569 = .ok (.invokevirtual 172, 3) := by decide +kernel
theorem dL_law_572 : decode cL_law 572 = .ok (.istore 7, 2) := by decide +kernel
theorem dL_law_574 : decode cL_law 574 = .ok (.aload_n 2, 1) := by decide +kernel
theorem dL_law_575 : decode cL_law 575 = .ok (.invokevirtual 150, 3) := by decide +kernel
theorem dL_law_578 : decode cL_law 578 = .ok (.iload 6, 2) := by decide +kernel
theorem dL_law_580 : decode cL_law 580 = .ok (.if_icmp .eq 5, 3) := by decide +kernel
theorem dL_law_585 : decode cL_law 585 = .ok (.iload 6, 2) := by decide +kernel
theorem dL_law_587 : decode cL_law 587 = .ok (.ifCond .ne 22, 3) := by decide +kernel
theorem dL_law_609 : decode cL_law 609 = .ok (.goto 2079, 3) := by decide +kernel
theorem dL_law_612 : decode cL_law 612 = .ok (.aload_n 1, 1) := by decide +kernel
theorem dL_law_613 : decode cL_law 613 = .ok (.invokevirtual 173, 3) := by decide +kernel
theorem dL_law_616 : decode cL_law 616 = .ok (.aload_n 2, 1) := by decide +kernel
theorem dL_law_617 : decode cL_law 617 = .ok (.invokevirtual 176, 3) := by decide +kernel
theorem dL_law_620 : decode cL_law 620 = .ok (.if_icmp .eq 2068, 3) := by decide +kernel
theorem dL_law_625 : decode cL_law 625 = .ok (.aload_n 1, 1) := by decide +kernel
theorem dL_law_626 : decode cL_law 626 = .ok (.aload_n 0, 1) := by decide +kernel
theorem dL_law_627 : decode cL_law 627 = .ok (.iload 5, 2) := by decide +kernel
theorem dL_law_629 : decode cL_law 629 = .ok (.iconst 1, 1) := by decide +kernel
theorem dL_law_630 : decode cL_law 630 = .ok (.iadd, 1) := by decide +kernel
theorem dL_law_631 : decode cL_law 631 = .ok (.iaload, 1) := by decide +kernel
theorem dL_law_632 : decode cL_law 632 = .ok (.aload_n 3, 1) := by decide +kernel
theorem dL_law_633 : decode cL_law 633 = .ok (.invokestatic 177, 3) := by decide +kernel
theorem dL_law_636 : decode cL_law 636 = .ok (.istore 6, 2) := by decide +kernel
theorem dL_law_638 : decode cL_law 638 = .ok (.aload_n 2, 1) := by decide +kernel
theorem dL_law_639 : decode cL_law 639 = .ok (.aload_n 0, 1) := by decide +kernel
theorem dL_law_640 : decode cL_law 640 = .ok (.iload 5, 2) := by decide +kernel
theorem dL_law_642 : decode cL_law 642 = .ok (.iconst 1, 1) := by decide +kernel
theorem dL_law_643 : decode cL_law 643 = .ok (.iadd, 1) := by decide +kernel
theorem dL_law_644 : decode cL_law 644 = .ok (.iaload, 1) := by decide +kernel
theorem dL_law_645 : decode cL_law 645 = .ok (.invokevirtual 179, 3) := by decide +kernel
theorem dL_law_648 : decode cL_law 648 = .ok (.istore 7, 2) := by decide +kernel
theorem dL_law_650 : decode cL_law 650 = .ok (.aload_n 2, 1) := by decide +kernel
theorem dL_law_651 : decode cL_law 651 = .ok (.invokevirtual 150, 3) := by decide +kernel
theorem dL_law_654 : decode cL_law 654 = .ok (.iload 6, 2) := by decide +kernel
theorem dL_law_656 : decode cL_law 656 = .ok (.if_icmp .eq 5, 3) := by decide +kernel
theorem dL_law_661 : decode cL_law 661 = .ok (.iload 6, 2) := by decide +kernel
theorem dL_law_663 : decode cL_law 663 = .ok (.ifCond .ne 15, 3) := by decide +kernel
theorem dL_law_678 : decode cL_law 678 = .ok (.goto 2010, 3) := by decide +kernel
theorem dL_law_681 : decode cL_law 681 = .ok (.aload_n 1, 1) := by decide +kernel
theorem dL_law_682 : decode cL_law 682 = .ok (.invokevirtual 180, 3) := by decide +kernel
theorem dL_law_685 : decode cL_law 685 = .ok (.aload_n 2, 1) := by decide +kernel
theorem dL_law_686 : decode cL_law 686 = .ok (.invokevirtual 183, 3) := by decide +kernel
theorem dL_law_689 : decode cL_law 689 = .ok (.if_icmp .eq 1999, 3) := by decide +kernel
theorem dL_law_694 : decode cL_law 694 = .ok (.aload_n 1, 1) := by decide +kernel
theorem dL_law_695 : decode cL_law 695 = .ok (.aload_n 0, 1) := by decide +kernel
theorem dL_law_696 : decode cL_law 696 = .ok (.iload 5, 2) := by decide +kernel
theorem dL_law_698 : decode cL_law 698 = .ok (.iconst 1, 1) := by decide +kernel
theorem dL_law_699 : decode cL_law 699 = .ok (.iadd, 1) := by decide +kernel
theorem dL_law_700 : decode cL_law 700 = .ok (.iaload, 1) := by decide +kernel
theorem dL_law_701 : decode cL_law 701 = .ok (.aload_n 3, 1) := by decide +kernel
theorem dL_law_702 : decode cL_law 702 = .ok (.invokestatic 184, 3) := by decide +kernel
theorem dL_law_705 : decode cL_law 705 = .ok (.istore 6, 2) := by decide +kernel
theorem dL_law_707 : decode cL_law 707 = .ok (.aload_n 2, 1) := by decide +kernel
theorem dL_law_708 : decode cL_law 708 = .ok (.aload_n 0, 1) := by decide +kernel
theorem dL_law_709 : decode cL_law 709 = .ok (.iload 5, 2) := by decide +kernel
theorem dL_law_711 : decode cL_law 711 = .ok (.iconst 1, 1) := by decide +kernel
theorem dL_law_712 : decode cL_law 712 = .ok (.iadd, 1) := by decide +kernel
theorem dL_law_713 : decode cL_law 713 = .ok (.iaload, 1) := by decide +kernel
theorem dL_law_714 : decode cL_law 714 = .ok (.invokevirtual 186, 3) := by decide +kernel
theorem dL_law_717 : decode cL_law 717 = .ok (.istore 7, 2) := by decide +kernel
theorem dL_law_719 : decode cL_law 719 = .ok (.aload_n 2, 1) := by decide +kernel
theorem dL_law_720 : decode cL_law 720 = .ok (.invokevirtual 150, 3) := by decide +kernel
theorem dL_law_723 : decode cL_law 723 = .ok (.iload 6, 2) := by decide +kernel
theorem dL_law_725 : decode cL_law 725 = .ok (.if_icmp .eq 5, 3) := by decide +kernel
theorem dL_law_730 : decode cL_law 730 = .ok (.iload 6, 2) := by decide +kernel
theorem dL_law_732 : decode cL_law 732 = .ok (.ifCond .ne 15, 3) := by decide +kernel
theorem dL_law_747 : decode cL_law 747 = .ok (.goto 1941, 3) := by decide +kernel
theorem dL_law_750 : decode cL_law 750 = .ok (.aload_n 1, 1) := by decide +kernel
theorem dL_law_751 : decode cL_law 751 = .ok (.aload_n 0, 1) := by decide +kernel
theorem dL_law_752 : decode cL_law 752 = .ok (.iload 5, 2) := by decide +kernel
theorem dL_law_754 : decode cL_law 754 = .ok (.iconst 1, 1) := by decide +kernel
theorem dL_law_755 : decode cL_law 755 = .ok (.iadd, 1) := by decide +kernel
theorem dL_law_756 : decode cL_law 756 = .ok (.iaload, 1) := by decide +kernel
theorem dL_law_757 : decode cL_law 757 = .ok (.aload_n 3, 1) := by decide +kernel
theorem dL_law_758 : decode cL_law 758 = .ok (.invokestatic 187, 3) := by decide +kernel
theorem dL_law_761 : decode cL_law 761 = .ok (.istore 6, 2) := by decide +kernel
theorem dL_law_763 : decode cL_law 763 = .ok (.aload_n 2, 1) := by decide +kernel
theorem dL_law_764 : decode cL_law 764 = .ok (.aload_n 0, 1) := by decide +kernel
theorem dL_law_765 : decode cL_law 765 = .ok (.iload 5, 2) := by decide +kernel
theorem dL_law_767 : decode cL_law 767 = .ok (.iconst 1, 1) := by decide +kernel
theorem dL_law_768 : decode cL_law 768 = .ok (.iadd, 1) := by decide +kernel
theorem dL_law_769 : decode cL_law 769 = .ok (.iaload, 1) := by decide +kernel
theorem dL_law_770 : decode cL_law 770 = .ok (.invokevirtual 189, 3) := by decide +kernel
theorem dL_law_773 : decode cL_law 773 = .ok (.istore 7, 2) := by decide +kernel
theorem dL_law_775 : decode cL_law 775 = .ok (.aload_n 2, 1) := by decide +kernel
theorem dL_law_776 : decode cL_law 776 = .ok (.invokevirtual 150, 3) := by decide +kernel
theorem dL_law_779 : decode cL_law 779 = .ok (.iload 6, 2) := by decide +kernel
theorem dL_law_781 : decode cL_law 781 = .ok (.if_icmp .eq 5, 3) := by decide +kernel
theorem dL_law_786 : decode cL_law 786 = .ok (.iload 6, 2) := by decide +kernel
theorem dL_law_788 : decode cL_law 788 = .ok (.ifCond .ne 15, 3) := by decide +kernel
theorem dL_law_803 : decode cL_law 803 = .ok (.goto 1885, 3) := by decide +kernel
theorem dL_law_806 : decode cL_law 806 = .ok (.aload_n 1, 1) := by decide +kernel
theorem dL_law_807 : decode cL_law 807 = .ok (.aload_n 0, 1) := by decide +kernel
theorem dL_law_808 : decode cL_law 808 = .ok (.iload 5, 2) := by decide +kernel
theorem dL_law_810 : decode cL_law 810 = .ok (.iconst 1, 1) := by decide +kernel
theorem dL_law_811 : decode cL_law 811 = .ok (.iadd, 1) := by decide +kernel
theorem dL_law_812 : decode cL_law 812 = .ok (.iaload, 1) := by decide +kernel
theorem dL_law_813 : decode cL_law 813 = .ok (.aload_n 3, 1) := by decide +kernel
theorem dL_law_814 : decode cL_law 814 = .ok (.invokestatic 190, 3) := by decide +kernel
theorem dL_law_817 : decode cL_law 817 = .ok (.istore 6, 2) := by decide +kernel
theorem dL_law_819 : decode cL_law 819 = .ok (.aload_n 2, 1) := by decide +kernel
theorem dL_law_820 : decode cL_law 820 = .ok (.aload_n 0, 1) := by decide +kernel
theorem dL_law_821 : decode cL_law 821 = .ok (.iload 5, 2) := by decide +kernel
theorem dL_law_823 : decode cL_law 823 = .ok (.iconst 1, 1) := by decide +kernel
theorem dL_law_824 : decode cL_law 824 = .ok (.iadd, 1) := by decide +kernel
theorem dL_law_825 : decode cL_law 825 = .ok (.iaload, 1) := by decide +kernel
theorem dL_law_826 : decode cL_law 826 = .ok (.invokevirtual 192, 3) := by decide +kernel
theorem dL_law_829 : decode cL_law 829 = .ok (.istore 7, 2) := by decide +kernel
theorem dL_law_831 : decode cL_law 831 = .ok (.aload_n 2, 1) := by decide +kernel
theorem dL_law_832 : decode cL_law 832 = .ok (.invokevirtual 150, 3) := by decide +kernel
theorem dL_law_835 : decode cL_law 835 = .ok (.iload 6, 2) := by decide +kernel
theorem dL_law_837 : decode cL_law 837 = .ok (.if_icmp .eq 5, 3) := by decide +kernel
theorem dL_law_842 : decode cL_law 842 = .ok (.iload 6, 2) := by decide +kernel
theorem dL_law_844 : decode cL_law 844 = .ok (.ifCond .ne 15, 3) := by decide +kernel
theorem dL_law_859 : decode cL_law 859 = .ok (.goto 1829, 3) := by decide +kernel
theorem dL_law_862 : decode cL_law 862 = .ok (.aload_n 1, 1) := by decide +kernel
theorem dL_law_863 : decode cL_law 863 = .ok (.aload_n 0, 1) := by decide +kernel
theorem dL_law_864 : decode cL_law 864 = .ok (.iload 5, 2) := by decide +kernel
theorem dL_law_866 : decode cL_law 866 = .ok (.iconst 1, 1) := by decide +kernel
theorem dL_law_867 : decode cL_law 867 = .ok (.iadd, 1) := by decide +kernel
theorem dL_law_868 : decode cL_law 868 = .ok (.iaload, 1) := by decide +kernel
theorem dL_law_869 : decode cL_law 869 = .ok (.aload_n 3, 1) := by decide +kernel
theorem dL_law_870 : decode cL_law 870 = .ok (.invokestatic 193, 3) := by decide +kernel
theorem dL_law_873 : decode cL_law 873 = .ok (.istore 6, 2) := by decide +kernel
theorem dL_law_875 : decode cL_law 875 = .ok (.aload_n 2, 1) := by decide +kernel
theorem dL_law_876 : decode cL_law 876 = .ok (.aload_n 0, 1) := by decide +kernel
theorem dL_law_877 : decode cL_law 877 = .ok (.iload 5, 2) := by decide +kernel
theorem dL_law_879 : decode cL_law 879 = .ok (.iconst 1, 1) := by decide +kernel
theorem dL_law_880 : decode cL_law 880 = .ok (.iadd, 1) := by decide +kernel
theorem dL_law_881 : decode cL_law 881 = .ok (.iaload, 1) := by decide +kernel
theorem dL_law_882 : decode cL_law 882 = .ok (.invokevirtual 195, 3) := by decide +kernel
theorem dL_law_885 : decode cL_law 885 = .ok (.istore 7, 2) := by decide +kernel
theorem dL_law_887 : decode cL_law 887 = .ok (.aload_n 2, 1) := by decide +kernel
theorem dL_law_888 : decode cL_law 888 = .ok (.invokevirtual 150, 3) := by decide +kernel
theorem dL_law_891 : decode cL_law 891 = .ok (.iload 6, 2) := by decide +kernel
theorem dL_law_893 : decode cL_law 893 = .ok (.if_icmp .eq 5, 3) := by decide +kernel
theorem dL_law_898 : decode cL_law 898 = .ok (.iload 6, 2) := by decide +kernel
theorem dL_law_900 : decode cL_law 900 = .ok (.ifCond .ne 22, 3) := by decide +kernel
theorem dL_law_922 : decode cL_law 922 = .ok (.goto 1766, 3) := by decide +kernel
theorem dL_law_925 : decode cL_law 925 = .ok (.aload_n 1, 1) := by decide +kernel
theorem dL_law_926 : decode cL_law 926 = .ok (.aload_n 0, 1) := by decide +kernel
theorem dL_law_927 : decode cL_law 927 = .ok (.iload 5, 2) := by decide +kernel
theorem dL_law_929 : decode cL_law 929 = .ok (.iconst 1, 1) := by decide +kernel
theorem dL_law_930 : decode cL_law 930 = .ok (.iadd, 1) := by decide +kernel
theorem dL_law_931 : decode cL_law 931 = .ok (.iaload, 1) := by decide +kernel
theorem dL_law_932 : decode cL_law 932 = .ok (.aload_n 0, 1) := by decide +kernel
theorem dL_law_933 : decode cL_law 933 = .ok (.iload 5, 2) := by decide +kernel
theorem dL_law_935 : decode cL_law 935 = .ok (.iconst 2, 1) := by decide +kernel
theorem dL_law_936 : decode cL_law 936 = .ok (.iadd, 1) := by decide +kernel
theorem dL_law_937 : decode cL_law 937 = .ok (.iaload, 1) := by decide +kernel
theorem dL_law_938 : decode cL_law 938 = .ok (.aload_n 3, 1) := by decide +kernel
theorem dL_law_939 : decode cL_law 939 = .ok (.invokestatic 196, 3) := by decide +kernel
theorem dL_law_942 : decode cL_law 942 = .ok (.istore 6, 2) := by decide +kernel
theorem dL_law_944 : decode cL_law 944 = .ok (.aload_n 2, 1) := by decide +kernel
theorem dL_law_945 : decode cL_law 945 = .ok (.aload_n 0, 1) := by decide +kernel
theorem dL_law_946 : decode cL_law 946 = .ok (.iload 5, 2) := by decide +kernel
theorem dL_law_948 : decode cL_law 948 = .ok (.iconst 1, 1) := by decide +kernel
theorem dL_law_949 : decode cL_law 949 = .ok (.iadd, 1) := by decide +kernel
theorem dL_law_950 : decode cL_law 950 = .ok (.iaload, 1) := by decide +kernel
theorem dL_law_951 : decode cL_law 951 = .ok (.aload_n 0, 1) := by decide +kernel
theorem dL_law_952 : decode cL_law 952 = .ok (.iload 5, 2) := by decide +kernel
theorem dL_law_954 : decode cL_law 954 = .ok (.iconst 2, 1) := by decide +kernel
theorem dL_law_955 : decode cL_law 955 = .ok (.iadd, 1) := by decide +kernel
theorem dL_law_956 : decode cL_law 956 = .ok (.iaload, 1) := by decide +kernel
theorem dL_law_957 : decode cL_law 957 = .ok (.invokevirtual 198, 3) := by decide +kernel
theorem dL_law_960 : decode cL_law 960 = .ok (.istore 7, 2) := by decide +kernel
theorem dL_law_962 : decode cL_law 962 = .ok (.aload_n 2, 1) := by decide +kernel
theorem dL_law_963 : decode cL_law 963 = .ok (.invokevirtual 150, 3) := by decide +kernel
theorem dL_law_966 : decode cL_law 966 = .ok (.iload 6, 2) := by decide +kernel
theorem dL_law_968 : decode cL_law 968 = .ok (.if_icmp .eq 5, 3) := by decide +kernel
theorem dL_law_973 : decode cL_law 973 = .ok (.iload 6, 2) := by decide +kernel
theorem dL_law_975 : decode cL_law 975 = .ok (.ifCond .ne 15, 3) := by decide +kernel
theorem dL_law_990 : decode cL_law 990 = .ok (.goto 1698, 3) := by decide +kernel
theorem dL_law_993 : decode cL_law 993 = .ok (.aload_n 1, 1) := by decide +kernel
theorem dL_law_994 : decode cL_law 994 = .ok (.aload_n 0, 1) := by decide +kernel
theorem dL_law_995 : decode cL_law 995 = .ok (.iload 5, 2) := by decide +kernel
theorem dL_law_997 : decode cL_law 997 = .ok (.iconst 1, 1) := by decide +kernel
theorem dL_law_998 : decode cL_law 998 = .ok (.iadd, 1) := by decide +kernel
theorem dL_law_999 : decode cL_law 999 = .ok (.iaload, 1) := by decide +kernel
theorem dL_law_1000 : decode cL_law 1000 = .ok (.aload_n 3, 1) := by decide +kernel
theorem dL_law_1001 : decode cL_law 1001 = .ok (.invokestatic 199, 3) := by decide +kernel
theorem dL_law_1004 : decode cL_law 1004 = .ok (.istore 6, 2) := by decide +kernel
theorem dL_law_1006 : decode cL_law 1006 = .ok (.aload_n 2, 1) := by decide +kernel
theorem dL_law_1007 : decode cL_law 1007 = .ok (.aload_n 0, 1) := by decide +kernel
theorem dL_law_1008 : decode cL_law 1008 = .ok (.iload 5, 2) := by decide +kernel
theorem dL_law_1010 : decode cL_law 1010 = .ok (.iconst 1, 1) := by decide +kernel
theorem dL_law_1011 : decode cL_law 1011 = .ok (.iadd, 1) := by decide +kernel
theorem dL_law_1012 : decode cL_law 1012 = .ok (.iaload, 1) := by decide +kernel
theorem dL_law_1013 : decode cL_law 1013 = .ok (.invokevirtual 201, 3) := by decide +kernel
theorem dL_law_1016 : decode cL_law 1016 = .ok (.istore 7, 2) := by decide +kernel
theorem dL_law_1018 : decode cL_law 1018 = .ok (.aload_n 2, 1) := by decide +kernel
theorem dL_law_1019 : decode cL_law 1019 = .ok (.invokevirtual 150, 3) := by decide +kernel
theorem dL_law_1022 : decode cL_law 1022 = .ok (.iload 6, 2) := by decide +kernel
theorem dL_law_1024 : decode cL_law 1024 = .ok (.if_icmp .eq 5, 3) := by decide +kernel
theorem dL_law_1029 : decode cL_law 1029 = .ok (.iload 6, 2) := by decide +kernel
theorem dL_law_1031 : decode cL_law 1031 = .ok (.ifCond .ne 15, 3) := by decide +kernel
theorem dL_law_1046 : decode cL_law 1046 = .ok (.goto 1642, 3) := by decide +kernel
theorem dL_law_1049 : decode cL_law 1049 = .ok (.aload_n 1, 1) := by decide +kernel
theorem dL_law_1050 : decode cL_law 1050 = .ok (.aload_n 0, 1) := by decide +kernel
theorem dL_law_1051 : decode cL_law 1051 = .ok (.iload 5, 2) := by decide +kernel
theorem dL_law_1053 : decode cL_law 1053 = .ok (.iconst 1, 1) := by decide +kernel
theorem dL_law_1054 : decode cL_law 1054 = .ok (.iadd, 1) := by decide +kernel
theorem dL_law_1055 : decode cL_law 1055 = .ok (.iaload, 1) := by decide +kernel
theorem dL_law_1056 : decode cL_law 1056 = .ok (.aload_n 0, 1) := by decide +kernel
theorem dL_law_1057 : decode cL_law 1057 = .ok (.iload 5, 2) := by decide +kernel
theorem dL_law_1059 : decode cL_law 1059 = .ok (.iconst 2, 1) := by decide +kernel
theorem dL_law_1060 : decode cL_law 1060 = .ok (.iadd, 1) := by decide +kernel
theorem dL_law_1061 : decode cL_law 1061 = .ok (.iaload, 1) := by decide +kernel
theorem dL_law_1062 : decode cL_law 1062 = .ok (.aload_n 3, 1) := by decide +kernel
theorem dL_law_1063 : decode cL_law 1063 = .ok (.invokestatic 202, 3) := by decide +kernel
theorem dL_law_1066 : decode cL_law 1066 = .ok (.istore 6, 2) := by decide +kernel
theorem dL_law_1068 : decode cL_law 1068 = .ok (.aload_n 2, 1) := by decide +kernel
theorem dL_law_1069 : decode cL_law 1069 = .ok (.aload_n 0, 1) := by decide +kernel
theorem dL_law_1070 : decode cL_law 1070 = .ok (.iload 5, 2) := by decide +kernel
theorem dL_law_1072 : decode cL_law 1072 = .ok (.iconst 1, 1) := by decide +kernel
theorem dL_law_1073 : decode cL_law 1073 = .ok (.iadd, 1) := by decide +kernel
theorem dL_law_1074 : decode cL_law 1074 = .ok (.iaload, 1) := by decide +kernel
theorem dL_law_1075 : decode cL_law 1075 = .ok (.aload_n 0, 1) := by decide +kernel
theorem dL_law_1076 : decode cL_law 1076 = .ok (.iload 5, 2) := by decide +kernel
theorem dL_law_1078 : decode cL_law 1078 = .ok (.iconst 2, 1) := by decide +kernel
theorem dL_law_1079 : decode cL_law 1079 = .ok (.iadd, 1) := by decide +kernel
theorem dL_law_1080 : decode cL_law 1080 = .ok (.iaload, 1) := by decide +kernel
theorem dL_law_1081 : decode cL_law 1081 = .ok (.invokevirtual 204, 3) := by decide +kernel
theorem dL_law_1084 : decode cL_law 1084 = .ok (.istore 7, 2) := by decide +kernel
theorem dL_law_1086 : decode cL_law 1086 = .ok (.aload_n 2, 1) := by decide +kernel
theorem dL_law_1087 : decode cL_law 1087 = .ok (.invokevirtual 150, 3) := by decide +kernel
theorem dL_law_1090 : decode cL_law 1090 = .ok (.iload 6, 2) := by decide +kernel
theorem dL_law_1092 : decode cL_law 1092 = .ok (.if_icmp .eq 5, 3) := by decide +kernel
theorem dL_law_1097 : decode cL_law 1097 = .ok (.iload 6, 2) := by decide +kernel
theorem dL_law_1099 : decode cL_law 1099 = .ok (.ifCond .ne 15, 3) := by decide +kernel
theorem dL_law_1114 : decode cL_law 1114 = .ok (.goto 1574, 3) := by decide +kernel
theorem dL_law_1117 : decode cL_law 1117 = .ok (.aload_n 1, 1) := by decide +kernel
theorem dL_law_1118 : decode cL_law 1118 = .ok (.aload_n 0, 1) := by decide +kernel
theorem dL_law_1119 : decode cL_law 1119 = .ok (.iload 5, 2) := by decide +kernel
theorem dL_law_1121 : decode cL_law 1121 = .ok (.iconst 1, 1) := by decide +kernel
theorem dL_law_1122 : decode cL_law 1122 = .ok (.iadd, 1) := by decide +kernel
theorem dL_law_1123 : decode cL_law 1123 = .ok (.iaload, 1) := by decide +kernel
theorem dL_law_1124 : decode cL_law 1124 = .ok (.aload_n 0, 1) := by decide +kernel
theorem dL_law_1125 : decode cL_law 1125 = .ok (.iload 5, 2) := by decide +kernel
theorem dL_law_1127 : decode cL_law 1127 = .ok (.iconst 2, 1) := by decide +kernel
theorem dL_law_1128 : decode cL_law 1128 = .ok (.iadd, 1) := by decide +kernel
theorem dL_law_1129 : decode cL_law 1129 = .ok (.iaload, 1) := by decide +kernel
theorem dL_law_1130 : decode cL_law 1130 = .ok (.aload_n 3, 1) := by decide +kernel
theorem dL_law_1131 : decode cL_law 1131 = .ok (.invokestatic 205, 3) := by decide +kernel
theorem dL_law_1134 : decode cL_law 1134 = .ok (.istore 6, 2) := by decide +kernel
theorem dL_law_1136 : decode cL_law 1136 = .ok (.aload_n 2, 1) := by decide +kernel
theorem dL_law_1137 : decode cL_law 1137 = .ok (.aload_n 0, 1) := by decide +kernel
theorem dL_law_1138 : decode cL_law 1138 = .ok (.iload 5, 2) := by decide +kernel
theorem dL_law_1140 : decode cL_law 1140 = .ok (.iconst 1, 1) := by decide +kernel
theorem dL_law_1141 : decode cL_law 1141 = .ok (.iadd, 1) := by decide +kernel
theorem dL_law_1142 : decode cL_law 1142 = .ok (.iaload, 1) := by decide +kernel
theorem dL_law_1143 : decode cL_law 1143 = .ok (.aload_n 0, 1) := by decide +kernel
theorem dL_law_1144 : decode cL_law 1144 = .ok (.iload 5, 2) := by decide +kernel
theorem dL_law_1146 : decode cL_law 1146 = .ok (.iconst 2, 1) := by decide +kernel
theorem dL_law_1147 : decode cL_law 1147 = .ok (.iadd, 1) := by decide +kernel
theorem dL_law_1148 : decode cL_law 1148 = .ok (.iaload, 1) := by decide +kernel
theorem dL_law_1149 : decode cL_law 1149 = .ok (.invokevirtual 207, 3) := by decide +kernel
theorem dL_law_1152 : decode cL_law 1152 = .ok (.istore 7, 2) := by decide +kernel
theorem dL_law_1154 : decode cL_law 1154 = .ok (.aload_n 2, 1) := by decide +kernel
theorem dL_law_1155 : decode cL_law 1155 = .ok (.invokevirtual 150, 3) := by decide +kernel
theorem dL_law_1158 : decode cL_law 1158 = .ok (.iload 6, 2) := by decide +kernel
theorem dL_law_1160 : decode cL_law 1160 = .ok (.if_icmp .eq 5, 3) := by decide +kernel
theorem dL_law_1165 : decode cL_law 1165 = .ok (.iload 6, 2) := by decide +kernel
theorem dL_law_1167 : decode cL_law 1167 = .ok (.ifCond .ne 15, 3) := by decide +kernel
theorem dL_law_1182 : decode cL_law 1182 = .ok (.goto 1506, 3) := by decide +kernel
theorem dL_law_1185 : decode cL_law 1185 = .ok (.aload_n 1, 1) := by decide +kernel
theorem dL_law_1186 : decode cL_law 1186 = .ok (.aload_n 0, 1) := by decide +kernel
theorem dL_law_1187 : decode cL_law 1187 = .ok (.iload 5, 2) := by decide +kernel
theorem dL_law_1189 : decode cL_law 1189 = .ok (.iconst 1, 1) := by decide +kernel
theorem dL_law_1190 : decode cL_law 1190 = .ok (.iadd, 1) := by decide +kernel
theorem dL_law_1191 : decode cL_law 1191 = .ok (.iaload, 1) := by decide +kernel
theorem dL_law_1192 : decode cL_law 1192 = .ok (.aload_n 0, 1) := by decide +kernel
theorem dL_law_1193 : decode cL_law 1193 = .ok (.iload 5, 2) := by decide +kernel
theorem dL_law_1195 : decode cL_law 1195 = .ok (.iconst 2, 1) := by decide +kernel
theorem dL_law_1196 : decode cL_law 1196 = .ok (.iadd, 1) := by decide +kernel
theorem dL_law_1197 : decode cL_law 1197 = .ok (.iaload, 1) := by decide +kernel
theorem dL_law_1198 : decode cL_law 1198 = .ok (.aload_n 3, 1) := by decide +kernel
theorem dL_law_1199 : decode cL_law 1199 = .ok (.invokestatic 208, 3) := by decide +kernel
theorem dL_law_1202 : decode cL_law 1202 = .ok (.istore 6, 2) := by decide +kernel
theorem dL_law_1204 : decode cL_law 1204 = .ok (.aload_n 2, 1) := by decide +kernel
theorem dL_law_1205 : decode cL_law 1205 = .ok (.aload_n 0, 1) := by decide +kernel
theorem dL_law_1206 : decode cL_law 1206 = .ok (.iload 5, 2) := by decide +kernel
theorem dL_law_1208 : decode cL_law 1208 = .ok (.iconst 1, 1) := by decide +kernel
theorem dL_law_1209 : decode cL_law 1209 = .ok (.iadd, 1) := by decide +kernel
theorem dL_law_1210 : decode cL_law 1210 = .ok (.iaload, 1) := by decide +kernel
theorem dL_law_1211 : decode cL_law 1211 = .ok (.aload_n 0, 1) := by decide +kernel
theorem dL_law_1212 : decode cL_law 1212 = .ok (.iload 5, 2) := by decide +kernel
theorem dL_law_1214 : decode cL_law 1214 = .ok (.iconst 2, 1) := by decide +kernel
theorem dL_law_1215 : decode cL_law 1215 = .ok (.iadd, 1) := by decide +kernel
theorem dL_law_1216 : decode cL_law 1216 = .ok (.iaload, 1) := by decide +kernel
theorem dL_law_1217 : decode cL_law 1217 = .ok (.invokevirtual 210, 3) := by decide +kernel
theorem dL_law_1220 : decode cL_law 1220 = .ok (.istore 7, 2) := by decide +kernel
theorem dL_law_1222 : decode cL_law 1222 = .ok (.aload_n 2, 1) := by decide +kernel
theorem dL_law_1223 : decode cL_law 1223 = .ok (.invokevirtual 150, 3) := by decide +kernel
theorem dL_law_1226 : decode cL_law 1226 = .ok (.iload 6, 2) := by decide +kernel
theorem dL_law_1228 : decode cL_law 1228 = .ok (.if_icmp .eq 5, 3) := by decide +kernel
theorem dL_law_1233 : decode cL_law 1233 = .ok (.iload 6, 2) := by decide +kernel
theorem dL_law_1235 : decode cL_law 1235 = .ok (.ifCond .ne 15, 3) := by decide +kernel
theorem dL_law_1250 : decode cL_law 1250 = .ok (.goto 1438, 3) := by decide +kernel
theorem dL_law_1253 : decode cL_law 1253 = .ok (.aload_n 1, 1) := by decide +kernel
theorem dL_law_1254 : decode cL_law 1254 = .ok (.aload_n 0, 1) := by decide +kernel
theorem dL_law_1255 : decode cL_law 1255 = .ok (.iload 5, 2) := by decide +kernel
theorem dL_law_1257 : decode cL_law 1257 = .ok (.iconst 1, 1) := by decide +kernel
theorem dL_law_1258 : decode cL_law 1258 = .ok (.iadd, 1) := by decide +kernel
theorem dL_law_1259 : decode cL_law 1259 = .ok (.iaload, 1) := by decide +kernel
theorem dL_law_1260 : decode cL_law 1260 = .ok (.aload_n 0, 1) := by decide +kernel
theorem dL_law_1261 : decode cL_law 1261 = .ok (.iload 5, 2) := by decide +kernel
theorem dL_law_1263 : decode cL_law 1263 = .ok (.iconst 2, 1) := by decide +kernel
theorem dL_law_1264 : decode cL_law 1264 = .ok (.iadd, 1) := by decide +kernel
theorem dL_law_1265 : decode cL_law 1265 = .ok (.iaload, 1) := by decide +kernel
theorem dL_law_1266 : decode cL_law 1266 = .ok (.aload_n 0, 1) := by decide +kernel
theorem dL_law_1267 : decode cL_law 1267 = .ok (.iload 5, 2) := by decide +kernel
theorem dL_law_1269 : decode cL_law 1269 = .ok (.iconst 3, 1) := by decide +kernel
theorem dL_law_1270 : decode cL_law 1270 = .ok (.iadd, 1) := by decide +kernel
theorem dL_law_1271 : decode cL_law 1271 = .ok (.iaload, 1) := by decide +kernel
theorem dL_law_1272 : decode cL_law 1272 = .ok (.aload_n 3, 1) := by decide +kernel
theorem dL_law_1273 : decode cL_law 1273 = .ok (.invokestatic 211, 3) := by decide +kernel
theorem dL_law_1276 : decode cL_law 1276 = .ok (.istore 6, 2) := by decide +kernel
theorem dL_law_1278 : decode cL_law 1278 = .ok (.aload_n 2, 1) := by decide +kernel
theorem dL_law_1279 : decode cL_law 1279 = .ok (.aload_n 0, 1) := by decide +kernel
theorem dL_law_1280 : decode cL_law 1280 = .ok (.iload 5, 2) := by decide +kernel
theorem dL_law_1282 : decode cL_law 1282 = .ok (.iconst 1, 1) := by decide +kernel
theorem dL_law_1283 : decode cL_law 1283 = .ok (.iadd, 1) := by decide +kernel
theorem dL_law_1284 : decode cL_law 1284 = .ok (.iaload, 1) := by decide +kernel
theorem dL_law_1285 : decode cL_law 1285 = .ok (.aload_n 0, 1) := by decide +kernel
theorem dL_law_1286 : decode cL_law 1286 = .ok (.iload 5, 2) := by decide +kernel
theorem dL_law_1288 : decode cL_law 1288 = .ok (.iconst 2, 1) := by decide +kernel
theorem dL_law_1289 : decode cL_law 1289 = .ok (.iadd, 1) := by decide +kernel
theorem dL_law_1290 : decode cL_law 1290 = .ok (.iaload, 1) := by decide +kernel
theorem dL_law_1291 : decode cL_law 1291 = .ok (.aload_n 0, 1) := by decide +kernel
theorem dL_law_1292 : decode cL_law 1292 = .ok (.iload 5, 2) := by decide +kernel
theorem dL_law_1294 : decode cL_law 1294 = .ok (.iconst 3, 1) := by decide +kernel
theorem dL_law_1295 : decode cL_law 1295 = .ok (.iadd, 1) := by decide +kernel
theorem dL_law_1296 : decode cL_law 1296 = .ok (.iaload, 1) := by decide +kernel
theorem dL_law_1297 : decode cL_law 1297 = .ok (.invokevirtual 214, 3) := by decide +kernel
theorem dL_law_1300 : decode cL_law 1300 = .ok (.istore 7, 2) := by decide +kernel
theorem dL_law_1302 : decode cL_law 1302 = .ok (.aload_n 2, 1) := by decide +kernel
theorem dL_law_1303 : decode cL_law 1303 = .ok (.invokevirtual 150, 3) := by decide +kernel
theorem dL_law_1306 : decode cL_law 1306 = .ok (.iload 6, 2) := by decide +kernel
theorem dL_law_1308 : decode cL_law 1308 = .ok (.if_icmp .eq 5, 3) := by decide +kernel
theorem dL_law_1313 : decode cL_law 1313 = .ok (.iload 6, 2) := by decide +kernel
theorem dL_law_1315 : decode cL_law 1315 = .ok (.ifCond .ne 15, 3) := by decide +kernel
theorem dL_law_1330 : decode cL_law 1330 = .ok (.goto 1358, 3) := by decide +kernel
theorem dL_law_1333 : decode cL_law 1333 = .ok (.aload_n 1, 1) := by decide +kernel
theorem dL_law_1334 : decode cL_law 1334 = .ok (.aload_n 0, 1) := by decide +kernel
theorem dL_law_1335 : decode cL_law 1335 = .ok (.iload 5, 2) := by decide +kernel
theorem dL_law_1337 : decode cL_law 1337 = .ok (.iconst 1, 1) := by decide +kernel
theorem dL_law_1338 : decode cL_law 1338 = .ok (.iadd, 1) := by decide +kernel
theorem dL_law_1339 : decode cL_law 1339 = .ok (.iaload, 1) := by decide +kernel
theorem dL_law_1340 : decode cL_law 1340 = .ok (.aload_n 0, 1) := by decide +kernel
theorem dL_law_1341 : decode cL_law 1341 = .ok (.iload 5, 2) := by decide +kernel
theorem dL_law_1343 : decode cL_law 1343 = .ok (.iconst 2, 1) := by decide +kernel
theorem dL_law_1344 : decode cL_law 1344 = .ok (.iadd, 1) := by decide +kernel
theorem dL_law_1345 : decode cL_law 1345 = .ok (.iaload, 1) := by decide +kernel
theorem dL_law_1346 : decode cL_law 1346 = .ok (.aload_n 3, 1) := by decide +kernel
theorem dL_law_1347 : decode cL_law 1347 = .ok (.invokestatic 215, 3) := by decide +kernel
theorem dL_law_1350 : decode cL_law 1350 = .ok (.istore 6, 2) := by decide +kernel
theorem dL_law_1352 : decode cL_law 1352 = .ok (.aload_n 2, 1) := by decide +kernel
theorem dL_law_1353 : decode cL_law 1353 = .ok (.aload_n 0, 1) := by decide +kernel
theorem dL_law_1354 : decode cL_law 1354 = .ok (.iload 5, 2) := by decide +kernel
theorem dL_law_1356 : decode cL_law 1356 = .ok (.iconst 1, 1) := by decide +kernel
theorem dL_law_1357 : decode cL_law 1357 = .ok (.iadd, 1) := by decide +kernel
theorem dL_law_1358 : decode cL_law 1358 = .ok (.iaload, 1) := by decide +kernel
theorem dL_law_1359 : decode cL_law 1359 = .ok (.aload_n 0, 1) := by decide +kernel
theorem dL_law_1360 : decode cL_law 1360 = .ok (.iload 5, 2) := by decide +kernel
theorem dL_law_1362 : decode cL_law 1362 = .ok (.iconst 2, 1) := by decide +kernel
theorem dL_law_1363 : decode cL_law 1363 = .ok (.iadd, 1) := by decide +kernel
theorem dL_law_1364 : decode cL_law 1364 = .ok (.iaload, 1) := by decide +kernel
theorem dL_law_1365 : decode cL_law 1365 = .ok (.invokevirtual 217, 3) := by decide +kernel
theorem dL_law_1368 : decode cL_law 1368 = .ok (.istore 7, 2) := by decide +kernel
theorem dL_law_1370 : decode cL_law 1370 = .ok (.aload_n 2, 1) := by decide +kernel
theorem dL_law_1371 : decode cL_law 1371 = .ok (.invokevirtual 150, 3) := by decide +kernel
theorem dL_law_1374 : decode cL_law 1374 = .ok (.iload 6, 2) := by decide +kernel
theorem dL_law_1376 : decode cL_law 1376 = .ok (.if_icmp .eq 5, 3) := by decide +kernel
theorem dL_law_1381 : decode cL_law 1381 = .ok (.iload 6, 2) := by decide +kernel
theorem dL_law_1383 : decode cL_law 1383 = .ok (.ifCond .ne 15, 3) := by decide +kernel
theorem dL_law_1398 : decode cL_law 1398 = .ok (.goto 1290, 3) := by decide +kernel
theorem dL_law_1401 : decode cL_law 1401 = .ok (.aload_n 1, 1) := by decide +kernel
theorem dL_law_1402 : decode cL_law 1402 = .ok (.aload_n 0, 1) := by decide +kernel
theorem dL_law_1403 : decode cL_law 1403 = .ok (.iload 5, 2) := by decide +kernel
theorem dL_law_1405 : decode cL_law 1405 = .ok (.iconst 1, 1) := by decide +kernel
theorem dL_law_1406 : decode cL_law 1406 = .ok (.iadd, 1) := by decide +kernel
theorem dL_law_1407 : decode cL_law 1407 = .ok (.iaload, 1) := by decide +kernel
theorem dL_law_1408 : decode cL_law 1408 = .ok (.aload_n 0, 1) := by decide +kernel
theorem dL_law_1409 : decode cL_law 1409 = .ok (.iload 5, 2) := by decide +kernel
theorem dL_law_1411 : decode cL_law 1411 = .ok (.iconst 2, 1) := by decide +kernel
theorem dL_law_1412 : decode cL_law 1412 = .ok (.iadd, 1) := by decide +kernel
theorem dL_law_1413 : decode cL_law 1413 = .ok (.iaload, 1) := by decide +kernel
theorem dL_law_1414 : decode cL_law 1414 = .ok (.aload_n 3, 1) := by decide +kernel
theorem dL_law_1415 : decode cL_law 1415 = .ok (.invokestatic 218, 3) := by decide +kernel
theorem dL_law_1418 : decode cL_law 1418 = .ok (.istore 6, 2) := by decide +kernel
theorem dL_law_1420 : decode cL_law 1420 = .ok (.aload_n 2, 1) := by decide +kernel
theorem dL_law_1421 : decode cL_law 1421 = .ok (.aload_n 0, 1) := by decide +kernel
theorem dL_law_1422 : decode cL_law 1422 = .ok (.iload 5, 2) := by decide +kernel
theorem dL_law_1424 : decode cL_law 1424 = .ok (.iconst 1, 1) := by decide +kernel
theorem dL_law_1425 : decode cL_law 1425 = .ok (.iadd, 1) := by decide +kernel
theorem dL_law_1426 : decode cL_law 1426 = .ok (.iaload, 1) := by decide +kernel
theorem dL_law_1427 : decode cL_law 1427 = .ok (.aload_n 0, 1) := by decide +kernel
theorem dL_law_1428 : decode cL_law 1428 = .ok (.iload 5, 2) := by decide +kernel
theorem dL_law_1430 : decode cL_law 1430 = .ok (.iconst 2, 1) := by decide +kernel
theorem dL_law_1431 : decode cL_law 1431 = .ok (.iadd, 1) := by decide +kernel
theorem dL_law_1432 : decode cL_law 1432 = .ok (.iaload, 1) := by decide +kernel
theorem dL_law_1433 : decode cL_law 1433 = .ok (.invokevirtual 220, 3) := by decide +kernel
theorem dL_law_1436 : decode cL_law 1436 = .ok (.istore 7, 2) := by decide +kernel
theorem dL_law_1438 : decode cL_law 1438 = .ok (.aload_n 2, 1) := by decide +kernel
theorem dL_law_1439 : decode cL_law 1439 = .ok (.invokevirtual 150, 3) := by decide +kernel
theorem dL_law_1442 : decode cL_law 1442 = .ok (.iload 6, 2) := by decide +kernel
theorem dL_law_1444 : decode cL_law 1444 = .ok (.if_icmp .eq 5, 3) := by decide +kernel
theorem dL_law_1449 : decode cL_law 1449 = .ok (.iload 6, 2) := by decide +kernel
theorem dL_law_1451 : decode cL_law 1451 = .ok (.ifCond .ne 15, 3) := by decide +kernel
theorem dL_law_1466 : decode cL_law 1466 = .ok (.goto 1222, 3) := by decide +kernel
theorem dL_law_1469 : decode cL_law 1469 = .ok (.aload_n 1, 1) := by decide +kernel
theorem dL_law_1470 : decode cL_law 1470 = .ok (.aload_n 0, 1) := by decide +kernel
theorem dL_law_1471 : decode cL_law 1471 = .ok (.iload 5, 2) := by decide +kernel
theorem dL_law_1473 : decode cL_law 1473 = .ok (.iconst 1, 1) := by decide +kernel
theorem dL_law_1474 : decode cL_law 1474 = .ok (.iadd, 1) := by decide +kernel
theorem dL_law_1475 : decode cL_law 1475 = .ok (.iaload, 1) := by decide +kernel
theorem dL_law_1476 : decode cL_law 1476 = .ok (.aload_n 0, 1) := by decide +kernel
theorem dL_law_1477 : decode cL_law 1477 = .ok (.iload 5, 2) := by decide +kernel
theorem dL_law_1479 : decode cL_law 1479 = .ok (.iconst 2, 1) := by decide +kernel
theorem dL_law_1480 : decode cL_law 1480 = .ok (.iadd, 1) := by decide +kernel
theorem dL_law_1481 : decode cL_law 1481 = .ok (.iaload, 1) := by decide +kernel
theorem dL_law_1482 : decode cL_law 1482 = .ok (.aload_n 3, 1) := by decide +kernel
theorem dL_law_1483 : decode cL_law 1483 = .ok (.invokestatic 221, 3) := by decide +kernel
theorem dL_law_1486 : decode cL_law 1486 = .ok (.istore 6, 2) := by decide +kernel
theorem dL_law_1488 : decode cL_law 1488 = .ok (.aload_n 2, 1) := by decide +kernel
theorem dL_law_1489 : decode cL_law 1489 = .ok (.aload_n 0, 1) := by decide +kernel
theorem dL_law_1490 : decode cL_law 1490 = .ok (.iload 5, 2) := by decide +kernel
theorem dL_law_1492 : decode cL_law 1492 = .ok (.iconst 1, 1) := by decide +kernel
theorem dL_law_1493 : decode cL_law 1493 = .ok (.iadd, 1) := by decide +kernel
theorem dL_law_1494 : decode cL_law 1494 = .ok (.iaload, 1) := by decide +kernel
theorem dL_law_1495 : decode cL_law 1495 = .ok (.aload_n 0, 1) := by decide +kernel
theorem dL_law_1496 : decode cL_law 1496 = .ok (.iload 5, 2) := by decide +kernel
theorem dL_law_1498 : decode cL_law 1498 = .ok (.iconst 2, 1) := by decide +kernel
theorem dL_law_1499 : decode cL_law 1499 = .ok (.iadd, 1) := by decide +kernel
theorem dL_law_1500 : decode cL_law 1500 = .ok (.iaload, 1) := by decide +kernel
theorem dL_law_1501 : decode cL_law 1501 = .ok (.invokevirtual 223, 3) := by decide +kernel
theorem dL_law_1504 : decode cL_law 1504 = .ok (.istore 7, 2) := by decide +kernel
theorem dL_law_1506 : decode cL_law 1506 = .ok (.aload_n 2, 1) := by decide +kernel
theorem dL_law_1507 : decode cL_law 1507 = .ok (.invokevirtual 150, 3) := by decide +kernel
theorem dL_law_1510 : decode cL_law 1510 = .ok (.iload 6, 2) := by decide +kernel
theorem dL_law_1512 : decode cL_law 1512 = .ok (.if_icmp .eq 5, 3) := by decide +kernel
theorem dL_law_1517 : decode cL_law 1517 = .ok (.iload 6, 2) := by decide +kernel
theorem dL_law_1519 : decode cL_law 1519 = .ok (.ifCond .ne 22, 3) := by decide +kernel
theorem dL_law_1541 : decode cL_law 1541 = .ok (.goto 1147, 3) := by decide +kernel
theorem dL_law_1544 : decode cL_law 1544 = .ok (.aload_n 1, 1) := by decide +kernel
theorem dL_law_1545 : decode cL_law 1545 = .ok (.aload_n 0, 1) := by decide +kernel
theorem dL_law_1546 : decode cL_law 1546 = .ok (.iload 5, 2) := by decide +kernel
theorem dL_law_1548 : decode cL_law 1548 = .ok (.iconst 1, 1) := by decide +kernel
theorem dL_law_1549 : decode cL_law 1549 = .ok (.iadd, 1) := by decide +kernel
theorem dL_law_1550 : decode cL_law 1550 = .ok (.iaload, 1) := by decide +kernel
theorem dL_law_1551 : decode cL_law 1551 = .ok (.aload_n 0, 1) := by decide +kernel
theorem dL_law_1552 : decode cL_law 1552 = .ok (.iload 5, 2) := by decide +kernel
theorem dL_law_1554 : decode cL_law 1554 = .ok (.iconst 2, 1) := by decide +kernel
theorem dL_law_1555 : decode cL_law 1555 = .ok (.iadd, 1) := by decide +kernel
theorem dL_law_1556 : decode cL_law 1556 = .ok (.iaload, 1) := by decide +kernel
theorem dL_law_1557 : decode cL_law 1557 = .ok (.aload_n 3, 1) := by decide +kernel
theorem dL_law_1558 : decode cL_law 1558 = .ok (.invokestatic 224, 3) := by decide +kernel
theorem dL_law_1561 : decode cL_law 1561 = .ok (.istore 6, 2) := by decide +kernel
theorem dL_law_1563 : decode cL_law 1563 = .ok (.aload_n 2, 1) := by decide +kernel
theorem dL_law_1564 : decode cL_law 1564 = .ok (.aload_n 0, 1) := by decide +kernel
theorem dL_law_1565 : decode cL_law 1565 = .ok (.iload 5, 2) := by decide +kernel
theorem dL_law_1567 : decode cL_law 1567 = .ok (.iconst 1, 1) := by decide +kernel
theorem dL_law_1568 : decode cL_law 1568 = .ok (.iadd, 1) := by decide +kernel
theorem dL_law_1569 : decode cL_law 1569 = .ok (.iaload, 1) := by decide +kernel
theorem dL_law_1570 : decode cL_law 1570 = .ok (.aload_n 0, 1) := by decide +kernel
theorem dL_law_1571 : decode cL_law 1571 = .ok (.iload 5, 2) := by decide +kernel
theorem dL_law_1573 : decode cL_law 1573 = .ok (.iconst 2, 1) := by decide +kernel
theorem dL_law_1574 : decode cL_law 1574 = .ok (.iadd, 1) := by decide +kernel
theorem dL_law_1575 : decode cL_law 1575 = .ok (.iaload, 1) := by decide +kernel
theorem dL_law_1576 : decode cL_law 1576 = .ok (.invokevirtual 226, 3) := by decide +kernel
theorem dL_law_1579 : decode cL_law 1579 = .ok (.istore 7, 2) := by decide +kernel
theorem dL_law_1581 : decode cL_law 1581 = .ok (.aload_n 2, 1) := by decide +kernel
theorem dL_law_1582 : decode cL_law 1582 = .ok (.invokevirtual 150, 3) := by decide +kernel
theorem dL_law_1585 : decode cL_law 1585 = .ok (.iload 6, 2) := by decide +kernel
theorem dL_law_1587 : decode cL_law 1587 = .ok (.if_icmp .eq 5, 3) := by decide +kernel
theorem dL_law_1592 : decode cL_law 1592 = .ok (.iload 6, 2) := by decide +kernel
theorem dL_law_1594 : decode cL_law 1594 = .ok (.ifCond .ne 15, 3) := by decide +kernel
theorem dL_law_1609 : decode cL_law 1609 = .ok (.goto 1079, 3) := by decide +kernel
theorem dL_law_1612 : decode cL_law 1612 = .ok (.aload_n 1, 1) := by decide +kernel
theorem dL_law_1613 : decode cL_law 1613 = .ok (.aload_n 0, 1) := by decide +kernel
theorem dL_law_1614 : decode cL_law 1614 = .ok (.iload 5, 2) := by decide +kernel
theorem dL_law_1616 : decode cL_law 1616 = .ok (.iconst 1, 1) := by decide +kernel
theorem dL_law_1617 : decode cL_law 1617 = .ok (.iadd, 1) := by decide +kernel
theorem dL_law_1618 : decode cL_law 1618 = .ok (.iaload, 1) := by decide +kernel
theorem dL_law_1619 : decode cL_law 1619 = .ok (.aload_n 0, 1) := by decide +kernel
theorem dL_law_1620 : decode cL_law 1620 = .ok (.iload 5, 2) := by decide +kernel
theorem dL_law_1622 : decode cL_law 1622 = .ok (.iconst 2, 1) := by decide +kernel
theorem dL_law_1623 : decode cL_law 1623 = .ok (.iadd, 1) := by decide +kernel
theorem dL_law_1624 : decode cL_law 1624 = .ok (.iaload, 1) := by decide +kernel
theorem dL_law_1625 : decode cL_law 1625 = .ok (.aload_n 3, 1) := by decide +kernel
theorem dL_law_1626 : decode cL_law 1626 = .ok (.invokestatic 227, 3) := by decide +kernel
theorem dL_law_1629 : decode cL_law 1629 = .ok (.istore 6, 2) := by decide +kernel
theorem dL_law_1631 : decode cL_law 1631 = .ok (.aload_n 2, 1) := by decide +kernel
theorem dL_law_1632 : decode cL_law 1632 = .ok (.aload_n 0, 1) := by decide +kernel
theorem dL_law_1633 : decode cL_law 1633 = .ok (.iload 5, 2) := by decide +kernel
theorem dL_law_1635 : decode cL_law 1635 = .ok (.iconst 1, 1) := by decide +kernel
theorem dL_law_1636 : decode cL_law 1636 = .ok (.iadd, 1) := by decide +kernel
theorem dL_law_1637 : decode cL_law 1637 = .ok (.iaload, 1) := by decide +kernel
theorem dL_law_1638 : decode cL_law 1638 = .ok (.aload_n 0, 1) := by decide +kernel
theorem dL_law_1639 : decode cL_law 1639 = .ok (.iload 5, 2) := by decide +kernel
theorem dL_law_1641 : decode cL_law 1641 = .ok (.iconst 2, 1) := by decide +kernel
theorem dL_law_1642 : decode cL_law 1642 = .ok (.iadd, 1) := by decide +kernel
theorem dL_law_1643 : decode cL_law 1643 = .ok (.iaload, 1) := by decide +kernel
theorem dL_law_1644 : decode cL_law 1644 = .ok (.invokevirtual 229, 3) := by decide +kernel
theorem dL_law_1647 : decode cL_law 1647 = .ok (.istore 7, 2) := by decide +kernel
theorem dL_law_1649 : decode cL_law 1649 = .ok (.aload_n 2, 1) := by decide +kernel
theorem dL_law_1650 : decode cL_law 1650 = .ok (.invokevirtual 150, 3) := by decide +kernel
theorem dL_law_1653 : decode cL_law 1653 = .ok (.iload 6, 2) := by decide +kernel
theorem dL_law_1655 : decode cL_law 1655 = .ok (.if_icmp .eq 5, 3) := by decide +kernel
theorem dL_law_1660 : decode cL_law 1660 = .ok (.iload 6, 2) := by decide +kernel
theorem dL_law_1662 : decode cL_law 1662 = .ok (.ifCond .ne 22, 3) := by decide +kernel
theorem dL_law_1684 : decode cL_law 1684 = .ok (.goto 1004, 3) := by decide +kernel
theorem dL_law_1687 : decode cL_law 1687 = .ok (.aload_n 1, 1) := by decide +kernel
theorem dL_law_1688 : decode cL_law 1688 = .ok (.aload_n 0, 1) := by decide +kernel
theorem dL_law_1689 : decode cL_law 1689 = .ok (.iload 5, 2) := by decide +kernel
theorem dL_law_1691 : decode cL_law 1691 = .ok (.iconst 1, 1) := by decide +kernel
theorem dL_law_1692 : decode cL_law 1692 = .ok (.iadd, 1) := by decide +kernel
theorem dL_law_1693 : decode cL_law 1693 = .ok (.iaload, 1) := by decide +kernel
theorem dL_law_1694 : decode cL_law 1694 = .ok (.aload_n 3, 1) := by decide +kernel
theorem dL_law_1695 : decode cL_law 1695 = .ok (.invokestatic 230, 3) := by decide +kernel
theorem dL_law_1698 : decode cL_law 1698 = .ok (.istore 6, 2) := by decide +kernel
theorem dL_law_1700 : decode cL_law 1700 = .ok (.aload_n 2, 1) := by decide +kernel
theorem dL_law_1701 : decode cL_law 1701 = .ok (.aload_n 0, 1) := by decide +kernel
theorem dL_law_1702 : decode cL_law 1702 = .ok (.iload 5, 2) := by decide +kernel
theorem dL_law_1704 : decode cL_law 1704 = .ok (.iconst 1, 1) := by decide +kernel
theorem dL_law_1705 : decode cL_law 1705 = .ok (.iadd, 1) := by decide +kernel
theorem dL_law_1706 : decode cL_law 1706 = .ok (.iaload, 1) := by decide +kernel
theorem dL_law_1707 : decode cL_law 1707 = .ok (.invokevirtual 232, 3) := by decide +kernel
theorem dL_law_1710 : decode cL_law 1710 = .ok (.istore 7, 2) := by decide +kernel
theorem dL_law_1712 : decode cL_law 1712 = .ok (.aload_n 2, 1) := by decide +kernel
theorem dL_law_1713 : decode cL_law 1713 = .ok (.invokevirtual 150, 3) := by decide +kernel
theorem dL_law_1716 : decode cL_law 1716 = .ok (.iload 6, 2) := by decide +kernel
theorem dL_law_1718 : decode cL_law 1718 = .ok (.if_icmp .eq 5, 3) := by decide +kernel
theorem dL_law_1723 : decode cL_law 1723 = .ok (.iload 6, 2) := by decide +kernel
theorem dL_law_1725 : decode cL_law 1725 = .ok (.ifCond .ne 15, 3) := by decide +kernel
theorem dL_law_1740 : decode cL_law 1740 = .ok (.goto 948, 3) := by decide +kernel
theorem dL_law_1743 : decode cL_law 1743 = .ok (.aload_n 1, 1) := by decide +kernel
theorem dL_law_1744 : decode cL_law 1744 = .ok (.aload_n 0, 1) := by decide +kernel
theorem dL_law_1745 : decode cL_law 1745 = .ok (.iload 5, 2) := by decide +kernel
theorem dL_law_1747 : decode cL_law 1747 = .ok (.iconst 1, 1) := by decide +kernel
theorem dL_law_1748 : decode cL_law 1748 = .ok (.iadd, 1) := by decide +kernel
theorem dL_law_1749 : decode cL_law 1749 = .ok (.iaload, 1) := by decide +kernel
theorem dL_law_1750 : decode cL_law 1750 = .ok (.aload_n 0, 1) := by decide +kernel
theorem dL_law_1751 : decode cL_law 1751 = .ok (.iload 5, 2) := by decide +kernel
theorem dL_law_1753 : decode cL_law 1753 = .ok (.iconst 2, 1) := by decide +kernel
theorem dL_law_1754 : decode cL_law 1754 = .ok (.iadd, 1) := by decide +kernel
theorem dL_law_1755 : decode cL_law 1755 = .ok (.iaload, 1) := by decide +kernel
theorem dL_law_1756 : decode cL_law 1756 = .ok (.aload_n 3, 1) := by decide +kernel
theorem dL_law_1757 : decode cL_law 1757 = .ok (.invokestatic 233, 3) := by decide +kernel
theorem dL_law_1760 : decode cL_law 1760 = .ok (.istore 6, 2) := by decide +kernel
theorem dL_law_1762 : decode cL_law 1762 = .ok (.aload_n 2, 1) := by decide +kernel
theorem dL_law_1763 : decode cL_law 1763 = .ok (.aload_n 0, 1) := by decide +kernel
theorem dL_law_1764 : decode cL_law 1764 = .ok (.iload 5, 2) := by decide +kernel
theorem dL_law_1766 : decode cL_law 1766 = .ok (.iconst 1, 1) := by decide +kernel
theorem dL_law_1767 : decode cL_law 1767 = .ok (.iadd, 1) := by decide +kernel
theorem dL_law_1768 : decode cL_law 1768 = .ok (.iaload, 1) := by decide +kernel
theorem dL_law_1769 : decode cL_law 1769 = .ok (.aload_n 0, 1) := by decide +kernel
theorem dL_law_1770 : decode cL_law 1770 = .ok (.iload 5, 2) := by decide +kernel
theorem dL_law_1772 : decode cL_law 1772 = .ok (.iconst 2, 1) := by decide +kernel
theorem dL_law_1773 : decode cL_law 1773 = .ok (.iadd, 1) := by decide +kernel
theorem dL_law_1774 : decode cL_law 1774 = .ok (.iaload, 1) := by decide +kernel
theorem dL_law_1775 : decode cL_law 1775 = .ok (.invokevirtual 235, 3) := by decide +kernel
theorem dL_law_1778 : decode cL_law 1778 = .ok (.istore 7, 2) := by decide +kernel
theorem dL_law_1780 : decode cL_law 1780 = .ok (.aload_n 2, 1) := by decide +kernel
theorem dL_law_1781 : decode cL_law 1781 = .ok (.invokevirtual 150, 3) := by decide +kernel
theorem dL_law_1784 : decode cL_law 1784 = .ok (.iload 6, 2) := by decide +kernel
theorem dL_law_1786 : decode cL_law 1786 = .ok (.if_icmp .eq 5, 3) := by decide +kernel
theorem dL_law_1791 : decode cL_law 1791 = .ok (.iload 6, 2) := by decide +kernel
theorem dL_law_1793 : decode cL_law 1793 = .ok (.ifCond .ne 15, 3) := by decide +kernel
theorem dL_law_1808 : decode cL_law 1808 = .ok (.goto 880, 3) := by decide +kernel
theorem dL_law_1811 : decode cL_law 1811 = .ok (.aload_n 1, 1) := by decide +kernel
theorem dL_law_1812 : decode cL_law 1812 = .ok (.aload_n 0, 1) := by decide +kernel
theorem dL_law_1813 : decode cL_law 1813 = .ok (.iload 5, 2) := by decide +kernel
theorem dL_law_1815 : decode cL_law 1815 = .ok (.iconst 1, 1) := by decide +kernel
theorem dL_law_1816 : decode cL_law 1816 = .ok (.iadd, 1) := by decide +kernel
theorem dL_law_1817 : decode cL_law 1817 = .ok (.iaload, 1) := by decide +kernel
theorem dL_law_1818 : decode cL_law 1818 = .ok (.aload_n 0, 1) := by decide +kernel
theorem dL_law_1819 : decode cL_law 1819 = .ok (.iload 5, 2) := by decide +kernel
theorem dL_law_1821 : decode cL_law 1821 = .ok (.iconst 2, 1) := by decide +kernel
theorem dL_law_1822 : decode cL_law 1822 = .ok (.iadd, 1) := by decide +kernel
theorem dL_law_1823 : decode cL_law 1823 = .ok (.iaload, 1) := by decide +kernel
theorem dL_law_1824 : decode cL_law 1824 = .ok (.aload_n 3, 1) := by decide +kernel
theorem dL_law_1825 : decode cL_law 1825 = .ok (.invokestatic 236, 3) := by decide +kernel
theorem dL_law_1828 : decode cL_law 1828 = .ok (.istore 6, 2) := by decide +kernel
theorem dL_law_1830 : decode cL_law 1830 = .ok (.aload_n 2, 1) := by decide +kernel
theorem dL_law_1831 : decode cL_law 1831 = .ok (.aload_n 0, 1) := by decide +kernel
theorem dL_law_1832 : decode cL_law 1832 = .ok (.iload 5, 2) := by decide +kernel
theorem dL_law_1834 : decode cL_law 1834 = .ok (.iconst 1, 1) := by decide +kernel
theorem dL_law_1835 : decode cL_law 1835 = .ok (.iadd, 1) := by decide +kernel
theorem dL_law_1836 : decode cL_law 1836 = .ok (.iaload, 1) := by decide +kernel
theorem dL_law_1837 : decode cL_law 1837 = .ok (.aload_n 0, 1) := by decide +kernel
theorem dL_law_1838 : decode cL_law 1838 = .ok (.iload 5, 2) := by decide +kernel
theorem dL_law_1840 : decode cL_law 1840 = .ok (.iconst 2, 1) := by decide +kernel
theorem dL_law_1841 : decode cL_law 1841 = .ok (.iadd, 1) := by decide +kernel
theorem dL_law_1842 : decode cL_law 1842 = .ok (.iaload, 1) := by decide +kernel
theorem dL_law_1843 : decode cL_law 1843 = .ok (.invokevirtual 238, 3) := by decide +kernel
theorem dL_law_1846 : decode cL_law 1846 = .ok (.istore 7, 2) := by decide +kernel
theorem dL_law_1848 : decode cL_law 1848 = .ok (.aload_n 2, 1) := by decide +kernel
theorem dL_law_1849 : decode cL_law 1849 = .ok (.invokevirtual 150, 3) := by decide +kernel
theorem dL_law_1852 : decode cL_law 1852 = .ok (.iload 6, 2) := by decide +kernel
theorem dL_law_1854 : decode cL_law 1854 = .ok (.if_icmp .eq 5, 3) := by decide +kernel
theorem dL_law_1859 : decode cL_law 1859 = .ok (.iload 6, 2) := by decide +kernel
theorem dL_law_1861 : decode cL_law 1861 = .ok (.ifCond .ne 22, 3) := by decide +kernel
theorem dL_law_1883 : decode cL_law 1883 = .ok (.goto 805, 3) := by decide +kernel
theorem dL_law_1886 : decode cL_law 1886 = .ok (.aload_n 1, 1) := by decide +kernel
theorem dL_law_1887 : decode cL_law 1887 = .ok (.aload_n 0, 1) := by decide +kernel
theorem dL_law_1888 : decode cL_law 1888 = .ok (.iload 5, 2) := by decide +kernel
theorem dL_law_1890 : decode cL_law 1890 = .ok (.iconst 1, 1) := by decide +kernel
theorem dL_law_1891 : decode cL_law 1891 = .ok (.iadd, 1) := by decide +kernel
theorem dL_law_1892 : decode cL_law 1892 = .ok (.iaload, 1) := by decide +kernel
theorem dL_law_1893 : decode cL_law 1893 = .ok (.ifCond .eq 7, 3) := by decide +kernel
theorem dL_law_1896 : decode cL_law 1896 = .ok (.iconst 1, 1) := by decide +kernel
theorem dL_law_1897 : decode cL_law 1897 = .ok (.goto 4, 3) := by decide +kernel
theorem dL_law_1900 : decode cL_law 1900 = .ok (.iconst 0, 1) := by decide +kernel
theorem dL_law_1901 : decode cL_law 1901 = .ok (.invokevirtual 239, 3) := by decide +kernel
theorem dL_law_1904 : decode cL_law 1904 = .ok (.aload_n 2, 1) := by decide +kernel
theorem dL_law_1905 : decode cL_law 1905 = .ok (.aload_n 0, 1) := by decide +kernel
theorem dL_law_1906 : decode cL_law 1906 = .ok (.iload 5, 2) := by decide +kernel
theorem dL_law_1908 : decode cL_law 1908 = .ok (.iconst 1, 1) := by decide +kernel
theorem dL_law_1909 : decode cL_law 1909 = .ok (.iadd, 1) := by decide +kernel
theorem dL_law_1910 : decode cL_law 1910 = .ok (.iaload, 1) := by decide +kernel
theorem dL_law_1911 : decode cL_law 1911 = .ok (.ifCond .eq 7, 3) := by decide +kernel
theorem dL_law_1914 : decode cL_law 1914 = .ok (.iconst 1, 1) := by decide +kernel
theorem dL_law_1915 : decode cL_law 1915 = .ok (.goto 4, 3) := by decide +kernel
theorem dL_law_1918 : decode cL_law 1918 = .ok (.iconst 0, 1) := by decide +kernel
theorem dL_law_1919 : decode cL_law 1919 = .ok (.invokevirtual 243, 3) := by decide +kernel
theorem dL_law_1922 : decode cL_law 1922 = .ok (.if_icmp .eq 766, 3) := by decide +kernel
theorem dL_law_1927 : decode cL_law 1927 = .ok (.aload_n 1, 1) := by decide +kernel
theorem dL_law_1928 : decode cL_law 1928 = .ok (.aload_n 0, 1) := by decide +kernel
theorem dL_law_1929 : decode cL_law 1929 = .ok (.iload 5, 2) := by decide +kernel
theorem dL_law_1931 : decode cL_law 1931 = .ok (.iconst 1, 1) := by decide +kernel
theorem dL_law_1932 : decode cL_law 1932 = .ok (.iadd, 1) := by decide +kernel
theorem dL_law_1933 : decode cL_law 1933 = .ok (.iaload, 1) := by decide +kernel
theorem dL_law_1934 : decode cL_law 1934 = .ok (.aload_n 3, 1) := by decide +kernel
theorem dL_law_1935 : decode cL_law 1935 = .ok (.invokestatic 244, 3) := by decide +kernel
theorem dL_law_1938 : decode cL_law 1938 = .ok (.istore 6, 2) := by decide +kernel
theorem dL_law_1940 : decode cL_law 1940 = .ok (.aload_n 2, 1) := by decide +kernel
theorem dL_law_1941 : decode cL_law 1941 = .ok (.aload_n 0, 1) := by decide +kernel
theorem dL_law_1942 : decode cL_law 1942 = .ok (.iload 5, 2) := by decide +kernel
theorem dL_law_1944 : decode cL_law 1944 = .ok (.iconst 1, 1) := by decide +kernel
theorem dL_law_1945 : decode cL_law 1945 = .ok (.iadd, 1) := by decide +kernel
theorem dL_law_1946 : decode cL_law 1946 = .ok (.iaload, 1) := by decide +kernel
theorem dL_law_1947 : decode cL_law 1947 = .ok (.invokevirtual 246, 3) := by decide +kernel
theorem dL_law_1950 : decode cL_law 1950 = .ok (.istore 7, 2) := by decide +kernel
theorem dL_law_1952 : decode cL_law 1952 = .ok (.aload_n 2, 1) := by decide +kernel
theorem dL_law_1953 : decode cL_law 1953 = .ok (.invokevirtual 150, 3) := by decide +kernel
theorem dL_law_1956 : decode cL_law 1956 = .ok (.iload 6, 2) := by decide +kernel
theorem dL_law_1958 : decode cL_law 1958 = .ok (.if_icmp .eq 5, 3) := by decide +kernel
theorem dL_law_1963 : decode cL_law 1963 = .ok (.iload 6, 2) := by decide +kernel
theorem dL_law_1965 : decode cL_law 1965 = .ok (.ifCond .ne 15, 3) := by decide +kernel
theorem dL_law_1980 : decode cL_law 1980 = .ok (.goto 708, 3) := by decide +kernel
theorem dL_law_1983 : decode cL_law 1983 = .ok (.aload_n 1, 1) := by decide +kernel
theorem dL_law_1984 : decode cL_law 1984 = .ok (.aload_n 0, 1) := by decide +kernel
theorem dL_law_1985 : decode cL_law 1985 = .ok (.iload 5, 2) := by decide +kernel
theorem dL_law_1987 : decode cL_law 1987 = .ok (.iconst 1, 1) := by decide +kernel
theorem dL_law_1988 : decode cL_law 1988 = .ok (.iadd, 1) := by decide +kernel
theorem dL_law_1989 : decode cL_law 1989 = .ok (.iaload, 1) := by decide +kernel
theorem dL_law_1990 : decode cL_law 1990 = .ok (.aload_n 0, 1) := by decide +kernel
theorem dL_law_1991 : decode cL_law 1991 = .ok (.iload 5, 2) := by decide +kernel
theorem dL_law_1993 : decode cL_law 1993 = .ok (.iconst 2, 1) := by decide +kernel
theorem dL_law_1994 : decode cL_law 1994 = .ok (.iadd, 1) := by decide +kernel
theorem dL_law_1995 : decode cL_law 1995 = .ok (.iaload, 1) := by decide +kernel
theorem dL_law_1996 : decode cL_law 1996 = .ok (.aload_n 3, 1) := by decide +kernel
theorem dL_law_1997 : decode cL_law 1997 = .ok (.invokestatic 247, 3) := by decide +kernel
theorem dL_law_2000 : decode cL_law 2000 = .ok (.istore 6, 2) := by decide +kernel
theorem dL_law_2002 : decode cL_law 2002 = .ok (.aload_n 2, 1) := by decide +kernel
theorem dL_law_2003 : decode cL_law 2003 = .ok (.aload_n 0, 1) := by decide +kernel
theorem dL_law_2004 : decode cL_law 2004 = .ok (.iload 5, 2) := by decide +kernel
theorem dL_law_2006 : decode cL_law 2006 = .ok (.iconst 1, 1) := by decide +kernel
theorem dL_law_2007 : decode cL_law 2007 = .ok (.iadd, 1) := by decide +kernel
theorem dL_law_2008 : decode cL_law 2008 = .ok (.iaload, 1) := by decide +kernel
theorem dL_law_2009 : decode cL_law 2009 = .ok (.aload_n 0, 1) := by decide +kernel
theorem dL_law_2010 : decode cL_law 2010 = .ok (.iload 5, 2) := by decide +kernel
theorem dL_law_2012 : decode cL_law 2012 = .ok (.iconst 2, 1) := by decide +kernel
theorem dL_law_2013 : decode cL_law 2013 = .ok (.iadd, 1) := by decide +kernel
theorem dL_law_2014 : decode cL_law 2014 = .ok (.iaload, 1) := by decide +kernel
theorem dL_law_2015 : decode cL_law 2015 = .ok (.invokevirtual 249, 3) := by decide +kernel
theorem dL_law_2018 : decode cL_law 2018 = .ok (.istore 7, 2) := by decide +kernel
theorem dL_law_2020 : decode cL_law 2020 = .ok (.aload_n 2, 1) := by decide +kernel
theorem dL_law_2021 : decode cL_law 2021 = .ok (.invokevirtual 150, 3) := by decide +kernel
theorem dL_law_2024 : decode cL_law 2024 = .ok (.iload 6, 2) := by decide +kernel
theorem dL_law_2026 : decode cL_law 2026 = .ok (.if_icmp .eq 5, 3) := by decide +kernel
theorem dL_law_2031 : decode cL_law 2031 = .ok (.iload 6, 2) := by decide +kernel
theorem dL_law_2033 : decode cL_law 2033 = .ok (.ifCond .ne 15, 3) := by decide +kernel
theorem dL_law_2048 : decode cL_law 2048 = .ok (.goto 640, 3) := by decide +kernel
theorem dL_law_2051 : decode cL_law 2051 = .ok (.aload_n 1, 1) := by decide +kernel
theorem dL_law_2052 : decode cL_law 2052 = .ok (.aload_n 3, 1) := by decide +kernel
theorem dL_law_2053 : decode cL_law 2053 = .ok (.invokestatic 250, 3) := by decide +kernel
theorem dL_law_2056 : decode cL_law 2056 = .ok (.istore 6, 2) := by decide +kernel
theorem dL_law_2058 : decode cL_law 2058 = .ok (.aload_n 2, 1) := by decide +kernel
theorem dL_law_2059 : decode cL_law 2059 = .ok (.invokevirtual 253, 3) := by decide +kernel
theorem dL_law_2062 : decode cL_law 2062 = .ok (.istore 7, 2) := by decide +kernel
theorem dL_law_2064 : decode cL_law 2064 = .ok (.aload_n 2, 1) := by decide +kernel
theorem dL_law_2065 : decode cL_law 2065 = .ok (.invokevirtual 150, 3) := by decide +kernel
theorem dL_law_2068 : decode cL_law 2068 = .ok (.iload 6, 2) := by decide +kernel
theorem dL_law_2070 : decode cL_law 2070 = .ok (.if_icmp .eq 5, 3) := by decide +kernel
theorem dL_law_2075 : decode cL_law 2075 = .ok (.iload 6, 2) := by decide +kernel
theorem dL_law_2077 : decode cL_law 2077 = .ok (.ifCond .ne 15, 3) := by decide +kernel
theorem dL_law_2080 : decode cL_law 2080 = .ok (.aload_n 3, 1) := by decide +kernel
theorem dL_law_2081 : decode cL_law 2081 = .ok (.iconst 0, 1) := by decide +kernel
theorem dL_law_2082 : decode cL_law 2082 = .ok (.laload, 1) := by decide +kernel
theorem dL_law_2083 : decode cL_law 2083 = .ok (.iload 7, 2) := by decide +kernel
theorem dL_law_2085 : decode cL_law 2085 = .ok (.i2l, 1) := by decide +kernel
theorem dL_law_2086 : decode cL_law 2086 = .ok (.lcmp, 1) := by decide +kernel
theorem dL_law_2087 : decode cL_law 2087 = .ok (.ifCond .eq 5, 3) := by decide +kernel
theorem dL_law_2092 : decode cL_law 2092 = .ok (.goto 596, 3) := by decide +kernel
theorem dL_law_2095 : decode cL_law 2095 = .ok (.aload_n 1, 1) := by decide +kernel
theorem dL_law_2096 : decode cL_law 2096 = .ok (.aload_n 0, 1) := by decide +kernel
theorem dL_law_2097 : decode cL_law 2097 = .ok (.iload 5, 2) := by decide +kernel
theorem dL_law_2099 : decode cL_law 2099 = .ok (.iconst 1, 1) := by decide +kernel
theorem dL_law_2100 : decode cL_law 2100 = .ok (.iadd, 1) := by decide +kernel
theorem dL_law_2101 : decode cL_law 2101 = .ok (.iaload, 1) := by decide +kernel
theorem dL_law_2102 : decode cL_law 2102 = .ok (.aload_n 3, 1) := by decide +kernel
theorem dL_law_2103 : decode cL_law 2103 = .ok (.invokestatic 254, 3) := by decide +kernel
theorem dL_law_2106 : decode cL_law 2106 = .ok (.istore 6, 2) := by decide +kernel
theorem dL_law_2108 : decode cL_law 2108 = .ok (.aload_n 2, 1) := by decide +kernel
theorem dL_law_2109 : decode cL_law 2109 = .ok (.aload_n 0, 1) := by decide +kernel
theorem dL_law_2110 : decode cL_law 2110 = .ok (.iload 5, 2) := by decide +kernel
theorem dL_law_2112 : decode cL_law 2112 = .ok (.iconst 1, 1) := by decide +kernel
theorem dL_law_2113 : decode cL_law 2113 = .ok (.iadd, 1) := by decide +kernel
theorem dL_law_2114 : decode cL_law 2114 = .ok (.iaload, 1) := by decide +kernel
theorem dL_law_2115 : decode cL_law 2115 = .ok (.invokevirtual 256, 3) := by decide +kernel
theorem dL_law_2118 : decode cL_law 2118 = .ok (.istore 7, 2) := by decide +kernel
theorem dL_law_2120 : decode cL_law 2120 = .ok (.aload_n 2, 1) := by decide +kernel
theorem dL_law_2121 : decode cL_law 2121 = .ok (.invokevirtual 150, 3) := by decide +kernel
theorem dL_law_2124 : decode cL_law 2124 = .ok (.iload 6, 2) := by decide +kernel
theorem dL_law_2126 : decode cL_law 2126 = .ok (.if_icmp .eq 5, 3) := by decide +kernel
theorem dL_law_2131 : decode cL_law 2131 = .ok (.iload 6, 2) := by decide +kernel
theorem dL_law_2133 : decode cL_law 2133 = .ok (.ifCond .ne 15, 3) := by decide +kernel
theorem dL_law_2136 : decode cL_law 2136 = .ok (.aload_n 3, 1) := by decide +kernel
theorem dL_law_2137 : decode cL_law 2137 = .ok (.iconst 0, 1) := by decide +kernel
theorem dL_law_2138 : decode cL_law 2138 = .ok (.laload, 1) := by decide +kernel
theorem dL_law_2139 : decode cL_law 2139 = .ok (.iload 7, 2) := by decide +kernel
theorem dL_law_2141 : decode cL_law 2141 = .ok (.i2l, 1) := by decide +kernel
theorem dL_law_2142 : decode cL_law 2142 = .ok (.lcmp, 1) := by decide +kernel
theorem dL_law_2143 : decode cL_law 2143 = .ok (.ifCond .eq 5, 3) := by decide +kernel
theorem dL_law_2148 : decode cL_law 2148 = .ok (.goto 540, 3) := by decide +kernel
theorem dL_law_2151 : decode cL_law 2151 = .ok (.aload_n 1, 1) := by decide +kernel
theorem dL_law_2152 : decode cL_law 2152 = .ok (.aload_n 0, 1) := by decide +kernel
theorem dL_law_2153 : decode cL_law 2153 = .ok (.iload 5, 2) := by decide +kernel
theorem dL_law_2155 : decode cL_law 2155 = .ok (.iconst 1, 1) := by decide +kernel
theorem dL_law_2156 : decode cL_law 2156 = .ok (.iadd, 1) := by decide +kernel
theorem dL_law_2157 : decode cL_law 2157 = .ok (.iaload, 1) := by decide +kernel
theorem dL_law_2158 : decode cL_law 2158 = .ok (.aload_n 3, 1) := by decide +kernel
theorem dL_law_2159 : decode cL_law 2159 = .ok (.invokestatic 257, 3) := by decide +kernel
theorem dL_law_2162 : decode cL_law 2162 = .ok (.istore 6, 2) := by decide +kernel
theorem dL_law_2164 : decode cL_law 2164 = .ok (.aload_n 2, 1) := by decide +kernel
theorem dL_law_2165 : decode cL_law 2165 = .ok (.aload_n 0, 1) := by decide +kernel
theorem dL_law_2166 : decode cL_law 2166 = .ok (.iload 5, 2) := by decide +kernel
theorem dL_law_2168 : decode cL_law 2168 = .ok (.iconst 1, 1) := by decide +kernel
theorem dL_law_2169 : decode cL_law 2169 = .ok (.iadd, 1) := by decide +kernel
theorem dL_law_2170 : decode cL_law 2170 = .ok (.iaload, 1) := by decide +kernel
theorem dL_law_2171 : decode cL_law 2171 = .ok (.invokevirtual 259, 3) := by decide +kernel
theorem dL_law_2174 : decode cL_law 2174 = .ok (.istore 7, 2) := by decide +kernel
theorem dL_law_2176 : decode cL_law 2176 = .ok (.aload_n 2, 1) := by decide +kernel
theorem dL_law_2177 : decode cL_law 2177 = .ok (.invokevirtual 150, 3) := by decide +kernel
theorem dL_law_2180 : decode cL_law 2180 = .ok (.iload 6, 2) := by decide +kernel
theorem dL_law_2182 : decode cL_law 2182 = .ok (.if_icmp .eq 5, 3) := by decide +kernel
theorem dL_law_2187 : decode cL_law 2187 = .ok (.iload 6, 2) := by decide +kernel
theorem dL_law_2189 : decode cL_law 2189 = .ok (.ifCond .ne 15, 3) := by decide +kernel
theorem dL_law_2192 : decode cL_law 2192 = .ok (.aload_n 3, 1) := by decide +kernel
theorem dL_law_2193 : decode cL_law 2193 = .ok (.iconst 0, 1) := by decide +kernel
theorem dL_law_2194 : decode cL_law 2194 = .ok (.laload, 1) := by decide +kernel
theorem dL_law_2195 : decode cL_law 2195 = .ok (.iload 7, 2) := by decide +kernel
theorem dL_law_2197 : decode cL_law 2197 = .ok (.i2l, 1) := by decide +kernel
theorem dL_law_2198 : decode cL_law 2198 = .ok (.lcmp, 1) := by decide +kernel
theorem dL_law_2199 : decode cL_law 2199 = .ok (.ifCond .eq 5, 3) := by decide +kernel
theorem dL_law_2204 : decode cL_law 2204 = .ok (.goto 484, 3) := by decide +kernel
theorem dL_law_2207 : decode cL_law 2207 = .ok (.aload_n 1, 1) := by decide +kernel
theorem dL_law_2208 : decode cL_law 2208 = .ok (.invokevirtual 260, 3) := by decide +kernel
theorem dL_law_2211 : decode cL_law 2211 = .ok (.aload_n 2, 1) := by decide +kernel
theorem dL_law_2212 : decode cL_law 2212 = .ok (.invokevirtual 263, 3) := by decide +kernel
theorem dL_law_2215 : decode cL_law 2215 = .ok (.if_icmp .eq 473, 3) := by decide +kernel
theorem dL_law_2220 : decode cL_law 2220 = .ok (.aload_n 1, 1) := by decide +kernel
theorem dL_law_2221 : decode cL_law 2221 = .ok (.aload_n 0, 1) := by decide +kernel
theorem dL_law_2222 : decode cL_law 2222 = .ok (.iload 5, 2) := by decide +kernel
theorem dL_law_2224 : decode cL_law 2224 = .ok (.iconst 1, 1) := by decide +kernel
theorem dL_law_2225 : decode cL_law 2225 = .ok (.iadd, 1) := by decide +kernel
theorem dL_law_2226 : decode cL_law 2226 = .ok (.iaload, 1) := by decide +kernel
theorem dL_law_2227 : decode cL_law 2227 = .ok (.ifCond .eq 7, 3) := by decide +kernel
theorem dL_law_2230 : decode cL_law 2230 = .ok (.iconst 1, 1) := by decide +kernel
theorem dL_law_2231 : decode cL_law 2231 = .ok (.goto 4, 3) := by decide +kernel
theorem dL_law_2234 : decode cL_law 2234 = .ok (.iconst 0, 1) := by decide +kernel
theorem dL_law_2235 : decode cL_law 2235 = .ok (.aload_n 0, 1) := by decide +kernel
theorem dL_law_2236 : decode cL_law 2236 = .ok (.iload 5, 2) := by decide +kernel
theorem dL_law_2238 : decode cL_law 2238 = .ok (.iconst 2, 1) := by decide +kernel
theorem dL_law_2239 : decode cL_law 2239 = .ok (.iadd, 1) := by decide +kernel
theorem dL_law_2240 : decode cL_law 2240 = .ok (.iaload, 1) := by decide +kernel
theorem dL_law_2241 : decode cL_law 2241 = .ok (.aload_n 3, 1) := by decide +kernel
theorem dL_law_2242 : decode cL_law 2242 = .ok (.invokestatic 264, 3) := by decide +kernel
theorem dL_law_2245 : decode cL_law 2245 = .ok (.istore 6, 2) := by decide +kernel
theorem dL_law_2247 : decode cL_law 2247 = .ok (.aload_n 2, 1) := by decide +kernel
theorem dL_law_2248 : decode cL_law 2248 = .ok (.aload_n 0, 1) := by decide +kernel
theorem dL_law_2249 : decode cL_law 2249 = .ok (.iload 5, 2) := by decide +kernel
theorem dL_law_2251 : decode cL_law 2251 = .ok (.iconst 1, 1) := by decide +kernel
theorem dL_law_2252 : decode cL_law 2252 = .ok (.iadd, 1) := by decide +kernel
theorem dL_law_2253 : decode cL_law 2253 = .ok (.iaload, 1) := by decide +kernel
theorem dL_law_2254 : decode cL_law 2254 = .ok (.ifCond .eq 7, 3) := by decide +kernel
theorem dL_law_2257 : decode cL_law 2257 = .ok (.iconst 1, 1) := by decide +kernel
theorem dL_law_2258 : decode cL_law 2258 = .ok (.goto 4, 3) := by decide +kernel
theorem dL_law_2261 : decode cL_law 2261 = .ok (.iconst 0, 1) := by decide +kernel
theorem dL_law_2262 : decode cL_law 2262 = .ok (.aload_n 0, 1) := by decide +kernel
theorem dL_law_2263 : decode cL_law 2263 = .ok (.iload 5, 2) := by decide +kernel
theorem dL_law_2265 : decode cL_law 2265 = .ok (.iconst 2, 1) := by decide +kernel
theorem dL_law_2266 : decode cL_law 2266 = .ok (.iadd, 1) := by decide +kernel
theorem dL_law_2267 : decode cL_law 2267 = .ok (.iaload, 1) := by decide +kernel
theorem dL_law_2268 : decode cL_law 2268 = .ok (.invokevirtual 267, 3) := by decide +kernel
theorem dL_law_2271 : decode cL_law 2271 = .ok (.istore 7, 2) := by decide +kernel
theorem dL_law_2273 : decode cL_law 2273 = .ok (.aload_n 2, 1) := by decide +kernel
theorem dL_law_2274 : decode cL_law 2274 = .ok (.invokevirtual 150, 3) := by decide +kernel
theorem dL_law_2277 : decode cL_law 2277 = .ok (.iload 6, 2) := by decide +kernel
theorem dL_law_2279 : decode cL_law 2279 = .ok (.if_icmp .eq 5, 3) := by decide +kernel
theorem dL_law_2284 : decode cL_law 2284 = .ok (.iload 6, 2) := by decide +kernel
theorem dL_law_2286 : decode cL_law 2286 = .ok (.ifCond .ne 15, 3) := by decide +kernel
theorem dL_law_2289 : decode cL_law 2289 = .ok (.aload_n 3, 1) := by decide +kernel
theorem dL_law_2290 : decode cL_law 2290 = .ok (.iconst 0, 1) := by decide +kernel
theorem dL_law_2291 : decode cL_law 2291 = .ok (.laload, 1) := by decide +kernel
theorem dL_law_2292 : decode cL_law 2292 = .ok (.iload 7, 2) := by decide +kernel
theorem dL_law_2294 : decode cL_law 2294 = .ok (.i2l, 1) := by decide +kernel
theorem dL_law_2295 : decode cL_law 2295 = .ok (.lcmp, 1) := by decide +kernel
theorem dL_law_2296 : decode cL_law 2296 = .ok (.ifCond .eq 5, 3) := by decide +kernel
theorem dL_law_2301 : decode cL_law 2301 = .ok (.goto 387, 3) := by decide +kernel
theorem dL_law_2304 : decode cL_law 2304 = .ok (.aload_n 1, 1) := by decide +kernel
theorem dL_law_2305 : decode cL_law 2305 = .ok (.invokevirtual 268, 3) := by decide +kernel
theorem dL_law_2308 : decode cL_law 2308 = .ok (.aload_n 2, 1) := by decide +kernel
theorem dL_law_2309 : decode cL_law 2309 = .ok (.invokevirtual 271, 3) := by decide +kernel
theorem dL_law_2312 : decode cL_law 2312 = .ok (.if_icmp .eq 376, 3) := by decide +kernel
theorem dL_law_2317 : decode cL_law 2317 = .ok (.aload_n 1, 1) := by decide +kernel
theorem dL_law_2318 : decode cL_law 2318 = .ok (.aload_n 0, 1) := by decide +kernel
theorem dL_law_2319 : decode cL_law 2319 = .ok (.iload 5, 2) := by decide +kernel
theorem dL_law_2321 : decode cL_law 2321 = .ok (.iconst 1, 1) := by decide +kernel
theorem dL_law_2322 : decode cL_law 2322 = .ok (.iadd, 1) := by decide +kernel
theorem dL_law_2323 : decode cL_law 2323 = .ok (.iaload, 1) := by decide +kernel
theorem dL_law_2324 : decode cL_law 2324 = .ok (.aload_n 3, 1) := by decide +kernel
theorem dL_law_2325 : decode cL_law 2325 = .ok (.invokestatic 272, 3) := by decide +kernel
theorem dL_law_2328 : decode cL_law 2328 = .ok (.istore 6, 2) := by decide +kernel
theorem dL_law_2330 : decode cL_law 2330 = .ok (.aload_n 2, 1) := by decide +kernel
theorem dL_law_2331 : decode cL_law 2331 = .ok (.aload_n 0, 1) := by decide +kernel
theorem dL_law_2332 : decode cL_law 2332 = .ok (.iload 5, 2) := by decide +kernel
theorem dL_law_2334 : decode cL_law 2334 = .ok (.iconst 1, 1) := by decide +kernel
theorem dL_law_2335 : decode cL_law 2335 = .ok (.iadd, 1) := by decide +kernel
theorem dL_law_2336 : decode cL_law 2336 = .ok (.iaload, 1) := by decide +kernel
theorem dL_law_2337 : decode cL_law 2337 = .ok (.invokevirtual 274, 3) := by decide +kernel
theorem dL_law_2340 : decode cL_law 2340 = .ok (.istore 7, 2) := by decide +kernel
theorem dL_law_2342 : decode cL_law 2342 = .ok (.aload_n 2, 1) := by decide +kernel
theorem dL_law_2343 : decode cL_law 2343 = .ok (.invokevirtual 150, 3) := by decide +kernel
theorem dL_law_2346 : decode cL_law 2346 = .ok (.iload 6, 2) := by decide +kernel
theorem dL_law_2348 : decode cL_law 2348 = .ok (.if_icmp .eq 5, 3) := by decide +kernel
theorem dL_law_2353 : decode cL_law 2353 = .ok (.iload 6, 2) := by decide +kernel
theorem dL_law_2355 : decode cL_law 2355 = .ok (.ifCond .ne 15, 3) := by decide +kernel
theorem dL_law_2370 : decode cL_law 2370 = .ok (.goto 318, 3) := by decide +kernel
theorem dL_law_2373 : decode cL_law 2373 = .ok (.aload_n 1, 1) := by decide +kernel
theorem dL_law_2374 : decode cL_law 2374 = .ok (.invokevirtual 275, 3) := by decide +kernel
theorem dL_law_2377 : decode cL_law 2377 = .ok (.aload_n 2, 1) := by decide +kernel
theorem dL_law_2378 : decode cL_law 2378 = .ok (.invokevirtual 278, 3) := by decide +kernel
theorem dL_law_2381 : decode cL_law 2381 = .ok (.if_icmp .eq 307, 3) := by decide +kernel
theorem dL_law_2386 : decode cL_law 2386 = .ok (.aload_n 1, 1) := by decide +kernel
theorem dL_law_2387 : decode cL_law 2387 = .ok (.aload_n 0, 1) := by decide +kernel
theorem dL_law_2388 : decode cL_law 2388 = .ok (.iload 5, 2) := by decide +kernel
theorem dL_law_2390 : decode cL_law 2390 = .ok (.iconst 1, 1) := by decide +kernel
theorem dL_law_2391 : decode cL_law 2391 = .ok (.iadd, 1) := by decide +kernel
theorem dL_law_2392 : decode cL_law 2392 = .ok (.iaload, 1) := by decide +kernel
theorem dL_law_2393 : decode cL_law 2393 = .ok (.aload_n 3, 1) := by decide +kernel
theorem dL_law_2394 : decode cL_law 2394 = .ok (.invokestatic 279, 3) := by decide +kernel
theorem dL_law_2397 : decode cL_law 2397 = .ok (.istore 6, 2) := by decide +kernel
theorem dL_law_2399 : decode cL_law 2399 = .ok (.aload_n 2, 1) := by decide +kernel
theorem dL_law_2400 : decode cL_law 2400 = .ok (.aload_n 0, 1) := by decide +kernel
theorem dL_law_2401 : decode cL_law 2401 = .ok (.iload 5, 2) := by decide +kernel
theorem dL_law_2403 : decode cL_law 2403 = .ok (.iconst 1, 1) := by decide +kernel
theorem dL_law_2404 : decode cL_law 2404 = .ok (.iadd, 1) := by decide +kernel
theorem dL_law_2405 : decode cL_law 2405 = .ok (.iaload, 1) := by decide +kernel
theorem dL_law_2406 : decode cL_law 2406 = .ok (.invokevirtual 281, 3) := by decide +kernel
theorem dL_law_2409 : decode cL_law 2409 = .ok (.istore 7, 2) := by decide +kernel
theorem dL_law_2411 : decode cL_law 2411 = .ok (.aload_n 2, 1) := by decide +kernel
theorem dL_law_2412 : decode cL_law 2412 = .ok (.invokevirtual 150, 3) := by decide +kernel
theorem dL_law_2415 : decode cL_law 2415 = .ok (.iload 6, 2) := by decide +kernel
theorem dL_law_2417 : decode cL_law 2417 = .ok (.if_icmp .eq 5, 3) := by decide +kernel
theorem dL_law_2422 : decode cL_law 2422 = .ok (.iload 6, 2) := by decide +kernel
theorem dL_law_2424 : decode cL_law 2424 = .ok (.ifCond .ne 22, 3) := by decide +kernel
theorem dL_law_2427 : decode cL_law 2427 = .ok (.aload_n 3, 1) := by decide +kernel
theorem dL_law_2428 : decode cL_law 2428 = .ok (.iconst 0, 1) := by decide +kernel
theorem dL_law_2429 : decode cL_law 2429 = .ok (.laload, 1) := by decide +kernel
theorem dL_law_2430 : decode cL_law 2430 = .ok (.iload 7, 2) := by decide +kernel
theorem dL_law_2432 : decode cL_law 2432 = .ok (.ifCond .eq 7, 3) := by decide +kernel
theorem dL_law_2435 : decode cL_law 2435 = .ok (.lconst 1, 1) := by decide +kernel
theorem dL_law_2436 : decode cL_law 2436 = .ok (.goto 4, 3) := by decide +kernel
theorem dL_law_2440 : decode cL_law 2440 = .ok (.lcmp, 1) := by decide +kernel
theorem dL_law_2441 : decode cL_law 2441 = .ok (.ifCond .eq 5, 3) := by decide +kernel
theorem dL_law_2446 : decode cL_law 2446 = .ok (.goto 242, 3) := by decide +kernel
theorem dL_law_2449 : decode cL_law 2449 = .ok (.aload_n 1, 1) := by decide +kernel
theorem dL_law_2450 : decode cL_law 2450 = .ok (.invokevirtual 282, 3) := by decide +kernel
theorem dL_law_2453 : decode cL_law 2453 = .ok (.aload_n 2, 1) := by decide +kernel
theorem dL_law_2454 : decode cL_law 2454 = .ok (.invokevirtual 285, 3) := by decide +kernel
theorem dL_law_2457 : decode cL_law 2457 = .ok (.if_icmp .eq 231, 3) := by decide +kernel
theorem dL_law_2462 : decode cL_law 2462 = .ok (.aload_n 1, 1) := by decide +kernel
theorem dL_law_2463 : decode cL_law 2463 = .ok (.aload_n 0, 1) := by decide +kernel
theorem dL_law_2464 : decode cL_law 2464 = .ok (.iload 5, 2) := by decide +kernel
theorem dL_law_2466 : decode cL_law 2466 = .ok (.iconst 1, 1) := by decide +kernel
theorem dL_law_2467 : decode cL_law 2467 = .ok (.iadd, 1) := by decide +kernel
theorem dL_law_2468 : decode cL_law 2468 = .ok (.iaload, 1) := by decide +kernel
theorem dL_law_2469 : decode cL_law 2469 = .ok (.aload_n 3, 1) := by decide +kernel
theorem dL_law_2470 : decode cL_law 2470 = .ok (.invokestatic 286, 3) := by decide +kernel
theorem dL_law_2473 : decode cL_law 2473 = .ok (.istore 6, 2) := by decide +kernel
theorem dL_law_2475 : decode cL_law 2475 = .ok (.aload_n 2, 1) := by decide +kernel
theorem dL_law_2476 : decode cL_law 2476 = .ok (.aload_n 0, 1) := by decide +kernel
theorem dL_law_2477 : decode cL_law 2477 = .ok (.iload 5, 2) := by decide +kernel
theorem dL_law_2479 : decode cL_law 2479 = .ok (.iconst 1, 1) := by decide +kernel
theorem dL_law_2480 : decode cL_law 2480 = .ok (.iadd, 1) := by decide +kernel
theorem dL_law_2481 : decode cL_law 2481 = .ok (.iaload, 1) := by decide +kernel
theorem dL_law_2482 : decode cL_law 2482 = .ok (.invokevirtual 288, 3) := by decide +kernel
theorem dL_law_2485 : decode cL_law 2485 = .ok (.istore 7, 2) := by decide +kernel
theorem dL_law_2487 : decode cL_law 2487 = .ok (.aload_n 2, 1) := by decide +kernel
theorem dL_law_2488 : decode cL_law 2488 = .ok (.invokevirtual 150, 3) := by decide +kernel
theorem dL_law_2491 : decode cL_law 2491 = .ok (.iload 6, 2) := by decide +kernel
theorem dL_law_2493 : decode cL_law 2493 = .ok (.if_icmp .eq 5, 3) := by decide +kernel
theorem dL_law_2498 : decode cL_law 2498 = .ok (.iload 6, 2) := by decide +kernel
theorem dL_law_2500 : decode cL_law 2500 = .ok (.ifCond .ne 15, 3) := by decide +kernel
theorem dL_law_2515 : decode cL_law 2515 = .ok (.goto 173, 3) := by decide +kernel
theorem dL_law_2518 : decode cL_law 2518 = .ok (.aload_n 1, 1) := by decide +kernel
theorem dL_law_2519 : decode cL_law 2519 = .ok (.invokevirtual 289, 3) := by decide +kernel
theorem dL_law_2522 : decode cL_law 2522 = .ok (.aload_n 2, 1) := by decide +kernel
theorem dL_law_2523 : decode cL_law 2523 = .ok (.invokevirtual 293, 3) := by decide +kernel
theorem dL_law_2526 : decode cL_law 2526 = .ok (.lcmp, 1) := by decide +kernel
theorem dL_law_2527 : decode cL_law 2527 = .ok (.ifCond .eq 161, 3) := by decide +kernel
theorem dL_law_2532 : decode cL_law 2532 = .ok (.aload_n 1, 1) := by decide +kernel
theorem dL_law_2533 : decode cL_law 2533 = .ok (.aload 4, 2) := by decide +kernel
theorem dL_law_2535 : decode cL_law 2535 = .ok (.invokestatic 294, 3) := by decide +kernel
theorem dL_law_2538 : decode cL_law 2538 = .ok (.istore 6, 2) := by decide +kernel
theorem dL_law_2540 : decode cL_law 2540 = .ok (.aload_n 2, 1) := by decide +kernel
theorem dL_law_2541 : decode cL_law 2541 = .ok (.invokevirtual 297, 3) := by decide +kernel
theorem dL_law_2544 : decode cL_law 2544 = .ok (.fstore 7, 2) := by decide +kernel
theorem dL_law_2546 : decode cL_law 2546 = .ok (.aload_n 2, 1) := by decide +kernel
theorem dL_law_2547 : decode cL_law 2547 = .ok (.invokevirtual 150, 3) := by decide +kernel
theorem dL_law_2550 : decode cL_law 2550 = .ok (.iload 6, 2) := by decide +kernel
theorem dL_law_2552 : decode cL_law 2552 = .ok (.if_icmp .eq 5, 3) := by decide +kernel
theorem dL_law_2557 : decode cL_law 2557 = .ok (.iload 6, 2) := by decide +kernel
theorem dL_law_2559 : decode cL_law 2559 = .ok (.ifCond .ne 36, 3) := by decide +kernel
theorem dL_law_2595 : decode cL_law 2595 = .ok (.goto 93, 3) := by decide +kernel
theorem dL_law_2598 : decode cL_law 2598 = .ok (.aload_n 1, 1) := by decide +kernel
theorem dL_law_2599 : decode cL_law 2599 = .ok (.aload_n 0, 1) := by decide +kernel
theorem dL_law_2600 : decode cL_law 2600 = .ok (.iload 5, 2) := by decide +kernel
theorem dL_law_2602 : decode cL_law 2602 = .ok (.iconst 1, 1) := by decide +kernel
theorem dL_law_2603 : decode cL_law 2603 = .ok (.iadd, 1) := by decide +kernel
theorem dL_law_2604 : decode cL_law 2604 = .ok (.iaload, 1) := by decide +kernel
theorem dL_law_2605 : decode cL_law 2605 = .ok (.aload 4, 2) := by decide +kernel
theorem dL_law_2607 : decode cL_law 2607 = .ok (.invokestatic 298, 3) := by decide +kernel
theorem dL_law_2610 : decode cL_law 2610 = .ok (.istore 6, 2) := by decide +kernel
theorem dL_law_2612 : decode cL_law 2612 = .ok (.aload_n 2, 1) := by decide +kernel
theorem dL_law_2613 : decode cL_law 2613 = .ok (.aload_n 0, 1) := by decide +kernel
theorem dL_law_2614 : decode cL_law 2614 = .ok (.iload 5, 2) := by decide +kernel
theorem dL_law_2616 : decode cL_law 2616 = .ok (.iconst 1, 1) := by decide +kernel
theorem dL_law_2617 : decode cL_law 2617 = .ok (.iadd, 1) := by decide +kernel
theorem dL_law_2618 : decode cL_law 2618 = .ok (.iaload, 1) := by decide +kernel
theorem dL_law_2619 : decode cL_law 2619 = .ok (.invokevirtual 301, 3) := by decide +kernel
theorem dL_law_2622 : decode cL_law 2622 = .ok (.dstore 7, 2) := by decide +kernel
theorem dL_law_2624 : decode cL_law 2624 = .ok (.aload_n 2, 1) := by decide +kernel
theorem dL_law_2625 : decode cL_law 2625 = .ok (.invokevirtual 150, 3) := by decide +kernel
theorem dL_law_2628 : decode cL_law 2628 = .ok (.iload 6, 2) := by decide +kernel
theorem dL_law_2630 : decode cL_law 2630 = .ok (.if_icmp .eq 5, 3) := by decide +kernel
theorem dL_law_2635 : decode cL_law 2635 = .ok (.iload 6, 2) := by decide +kernel
theorem dL_law_2637 : decode cL_law 2637 = .ok (.ifCond .ne 35, 3) := by decide +kernel
theorem dL_law_2672 : decode cL_law 2672 = .ok (.goto 16, 3) := by decide +kernel
theorem dL_law_2675 : decode cL_law 2675 = .ok (.aload_n 1, 1) := by decide +kernel
theorem dL_law_2676 : decode cL_law 2676 = .ok (.invokevirtual 302, 3) := by decide +kernel
theorem dL_law_2679 : decode cL_law 2679 = .ok (.aload_n 2, 1) := by decide +kernel
theorem dL_law_2680 : decode cL_law 2680 = .ok (.invokevirtual 306, 3) := by decide +kernel
theorem dL_law_2683 : decode cL_law 2683 = .ok (.if_icmp .eq 5, 3) := by decide +kernel
theorem dL_law_2688 : decode cL_law 2688 = .ok (.iinc 5 4, 3) := by decide +kernel
theorem dL_law_2691 : decode cL_law 2691 = .ok (.goto (-2663), 3) := by decide +kernel
theorem dL_law_2694 : decode cL_law 2694 = .ok (.iconst 1, 1) := by decide +kernel
theorem dL_leaps_0 : decode cL_leaps 0 = .ok (.aload_n 2, 1) := by decide +kernel
theorem dL_leaps_1 : decode cL_leaps 1 = .ok (.iconst 0, 1) := by decide +kernel
theorem dL_leaps_2 : decode cL_leaps 2 = .ok (.aload_n 0, 1) := by decide +kernel
theorem dL_leaps_3 : decode cL_leaps 3 = .ok (.iload_n 1, 1) := by decide +kernel
theorem dL_leaps_4 : decode cL_leaps 4 = .ok (.invokevirtual 91, 3) := by decide +kernel
theorem dL_leaps_12 : decode cL_leaps 12 = .ok (.astore_n 3, 1) := by decide +kernel
theorem dL_leaps_13 : decode cL_leaps 13 = .ok (.iconst 1, 1) := by decide +kernel
theorem dL_leaps_14 : decode cL_leaps 14 = .ok (.ireturn, 1) := by decide +kernel
theorem dL_length_0 : decode cL_length 0 = .ok (.aload_n 2, 1) := by decide +kernel
theorem dL_length_1 : decode cL_length 1 = .ok (.iconst 0, 1) := by decide +kernel
theorem dL_length_2 : decode cL_length 2 = .ok (.aload_n 0, 1) := by decide +kernel
theorem dL_length_3 : decode cL_length 3 = .ok (.iload_n 1, 1) := by decide +kernel
theorem dL_length_4 : decode cL_length 4 = .ok (.invokevirtual 39, 3) := by decide +kernel
theorem dL_length_12 : decode cL_length 12 = .ok (.astore_n 3, 1) := by decide +kernel
theorem dL_length_13 : decode cL_length 13 = .ok (.iconst 1, 1) := by decide +kernel
theorem dL_length_14 : decode cL_length 14 = .ok (.ireturn, 1) := by decide +kernel
theorem dL_live_0 : decode cL_live 0 = .ok (.aload_n 3, 1) := by decide +kernel
theorem dL_live_1 : decode cL_live 1 = .ok (.iconst 0, 1) := by decide +kernel
theorem dL_live_2 : decode cL_live 2 = .ok (.aload_n 0, 1) := by decide +kernel
theorem dL_live_3 : decode cL_live 3 = .ok (.iload_n 1, 1) := by decide +kernel
theorem dL_live_4 : decode cL_live 4 = .ok (.iload_n 2, 1) := by decide +kernel
theorem dL_live_5 : decode cL_live 5 = .ok (.invokevirtual 94, 3) := by decide +kernel
theorem dL_live_13 : decode cL_live 13 = .ok (.astore 4, 2) := by decide +kernel
theorem dL_live_15 : decode cL_live 15 = .ok (.iconst 1, 1) := by decide +kernel
theorem dL_live_16 : decode cL_live 16 = .ok (.ireturn, 1) := by decide +kernel
theorem dL_match_0 : decode cL_match 0 = .ok (.aload_n 2, 1) := by decide +kernel
theorem dL_match_1 : decode cL_match 1 = .ok (.iconst 0, 1) := by decide +kernel
theorem dL_match_2 : decode cL_match 2 = .ok (.aload_n 0, 1) := by decide +kernel
theorem dL_match_3 : decode cL_match 3 = .ok (.iload_n 1, 1) := by decide +kernel
theorem dL_match_4 : decode cL_match 4 = .ok (.invokevirtual 127, 3) := by decide +kernel
theorem dL_match_12 : decode cL_match 12 = .ok (.astore_n 3, 1) := by decide +kernel
theorem dL_match_13 : decode cL_match 13 = .ok (.iconst 1, 1) := by decide +kernel
theorem dL_match_14 : decode cL_match 14 = .ok (.ireturn, 1) := by decide +kernel
theorem dL_mayReturn_0 : decode cL_mayReturn 0 = .ok (.aload_n 2, 1) := by decide +kernel
theorem dL_mayReturn_1 : decode cL_mayReturn 1 = .ok (.iconst 0, 1) := by decide +kernel
theorem dL_mayReturn_2 : decode cL_mayReturn 2 = .ok (.aload_n 0, 1) := by decide +kernel
theorem dL_mayReturn_3 : decode cL_mayReturn 3 = .ok (.iload_n 1, 1) := by decide +kernel
theorem dL_mayReturn_4 : decode cL_mayReturn 4 = .ok (.invokevirtual 53, 3) := by decide +kernel
theorem dL_mayReturn_19 : decode cL_mayReturn 19 = .ok (.astore_n 3, 1) := by decide +kernel
theorem dL_mayReturn_20 : decode cL_mayReturn 20 = .ok (.iconst 1, 1) := by decide +kernel
theorem dL_mayReturn_21 : decode cL_mayReturn 21 = .ok (.ireturn, 1) := by decide +kernel
theorem dL_meanBlock_0 : decode cL_meanBlock 0 = .ok (.aload_n 2, 1) := by decide +kernel
theorem dL_meanBlock_1 : decode cL_meanBlock 1 = .ok (.iconst 0, 1) := by decide +kernel
theorem dL_meanBlock_2 : decode cL_meanBlock 2 = .ok (.aload_n 0, 1) := by decide +kernel
theorem dL_meanBlock_3 : decode cL_meanBlock 3 = .ok (.iload_n 1, 1) := by decide +kernel
theorem dL_meanBlock_4 : decode cL_meanBlock 4 = .ok (.invokevirtual 136, 3) := by decide +kernel
theorem dL_meanBlock_11 : decode cL_meanBlock 11 = .ok (.astore_n 3, 1) := by decide +kernel
theorem dL_meanBlock_12 : decode cL_meanBlock 12 = .ok (.iconst 1, 1) := by decide +kernel
theorem dL_meanBlock_13 : decode cL_meanBlock 13 = .ok (.ireturn, 1) := by decide +kernel
theorem dL_nearest_0 : decode cL_nearest 0 = .ok (.aload_n 3, 1) := by decide +kernel
theorem dL_nearest_1 : decode cL_nearest 1 = .ok (.iconst 0, 1) := by decide +kernel
theorem dL_nearest_2 : decode cL_nearest 2 = .ok (.aload_n 0, 1) := by decide +kernel
theorem dL_nearest_3 : decode cL_nearest 3 = .ok (.iload_n 1, 1) := by decide +kernel
theorem dL_nearest_4 : decode cL_nearest 4 = .ok (.iload_n 2, 1) := by decide +kernel
theorem dL_nearest_5 : decode cL_nearest 5 = .ok (.invokevirtual 75, 3) := by decide +kernel
theorem dL_nearest_13 : decode cL_nearest 13 = .ok (.astore 4, 2) := by decide +kernel
theorem dL_nearest_15 : decode cL_nearest 15 = .ok (.iconst 1, 1) := by decide +kernel
theorem dL_nearest_16 : decode cL_nearest 16 = .ok (.ireturn, 1) := by decide +kernel
theorem dL_next_0 : decode cL_next 0 = .ok (.aload 4, 2) := by decide +kernel
theorem dL_next_2 : decode cL_next 2 = .ok (.iconst 0, 1) := by decide +kernel
theorem dL_next_3 : decode cL_next 3 = .ok (.aload_n 0, 1) := by decide +kernel
theorem dL_next_4 : decode cL_next 4 = .ok (.iload_n 1, 1) := by decide +kernel
theorem dL_next_5 : decode cL_next 5 = .ok (.iload_n 2, 1) := by decide +kernel
theorem dL_next_6 : decode cL_next 6 = .ok (.iload_n 3, 1) := by decide +kernel
theorem dL_next_7 : decode cL_next 7 = .ok (.invokevirtual 71, 3) := by decide +kernel
theorem dL_next_15 : decode cL_next 15 = .ok (.astore 5, 2) := by decide +kernel
theorem dL_next_17 : decode cL_next 17 = .ok (.iconst 1, 1) := by decide +kernel
theorem dL_next_18 : decode cL_next 18 = .ok (.ireturn, 1) := by decide +kernel
theorem dL_nexts_0 : decode cL_nexts 0 = .ok (.aload_n 3, 1) := by decide +kernel
theorem dL_nexts_1 : decode cL_nexts 1 = .ok (.iconst 0, 1) := by decide +kernel
theorem dL_nexts_2 : decode cL_nexts 2 = .ok (.aload_n 0, 1) := by decide +kernel
theorem dL_nexts_3 : decode cL_nexts 3 = .ok (.iload_n 1, 1) := by decide +kernel
theorem dL_nexts_4 : decode cL_nexts 4 = .ok (.iload_n 2, 1) := by decide +kernel
theorem dL_nexts_5 : decode cL_nexts 5 = .ok (.invokevirtual 68, 3) := by decide +kernel
theorem dL_nexts_13 : decode cL_nexts 13 = .ok (.astore 4, 2) := by decide +kernel
theorem dL_nexts_15 : decode cL_nexts 15 = .ok (.iconst 1, 1) := by decide +kernel
theorem dL_nexts_16 : decode cL_nexts 16 = .ok (.ireturn, 1) := by decide +kernel
theorem dL_order_0 : decode cL_order 0 = .ok (.aload_n 3, 1) := by decide +kernel
theorem dL_order_1 : decode cL_order 1 = .ok (.iconst 0, 1) := by decide +kernel
theorem dL_order_2 : decode cL_order 2 = .ok (.aload_n 0, 1) := by decide +kernel
theorem dL_order_3 : decode cL_order 3 = .ok (.iload_n 1, 1) := by decide +kernel
theorem dL_order_4 : decode cL_order 4 = .ok (.iload_n 2, 1) := by decide +kernel
theorem dL_order_5 : decode cL_order 5 = .ok (.invokevirtual 78, 3) := by decide +kernel
theorem dL_order_13 : decode cL_order 13 = .ok (.astore 4, 2) := by decide +kernel
theorem dL_order_15 : decode cL_order 15 = .ok (.iconst 1, 1) := by decide +kernel
theorem dL_order_16 : decode cL_order 16 = .ok (.ireturn, 1) := by decide +kernel
theorem dL_output_0 : decode cL_output 0 = .ok (.aload_n 2, 1) := by decide +kernel
theorem dL_output_1 : decode cL_output 1 = .ok (.iconst 0, 1) := by decide +kernel
theorem dL_output_2 : decode cL_output 2 = .ok (.aload_n 0, 1) := by decide +kernel
theorem dL_output_3 : decode cL_output 3 = .ok (.iload_n 1, 1) := by decide +kernel
theorem dL_output_4 : decode cL_output 4 = .ok (.invokevirtual 121, 3) := by decide +kernel
theorem dL_output_12 : decode cL_output 12 = .ok (.astore_n 3, 1) := by decide +kernel
theorem dL_output_13 : decode cL_output 13 = .ok (.iconst 1, 1) := by decide +kernel
theorem dL_output_14 : decode cL_output 14 = .ok (.ireturn, 1) := by decide +kernel
theorem dL_run_0 : decode cL_run 0 = .ok (.aload_n 3, 1) := by decide +kernel
theorem dL_run_1 : decode cL_run 1 = .ok (.iconst 0, 1) := by decide +kernel
theorem dL_run_2 : decode cL_run 2 = .ok (.aload_n 0, 1) := by decide +kernel
theorem dL_run_3 : decode cL_run 3 = .ok (.iload_n 1, 1) := by decide +kernel
theorem dL_run_4 : decode cL_run 4 = .ok (.iload_n 2, 1) := by decide +kernel
theorem dL_run_5 : decode cL_run 5 = .ok (.invokevirtual 117, 3) := by decide +kernel
theorem dL_run_8 : decode cL_run 8 = .ok (.i2l, 1) := by decide +kernel
theorem dL_run_9 : decode cL_run 9 = .ok (.lastore, 1) := by decide +kernel
theorem dL_run_10 : decode cL_run 10 = .ok (.goto 11, 3) := by decide +kernel
theorem dL_run_13 : decode cL_run 13 = .ok (.astore 4, 2) := by decide +kernel
theorem dL_run_15 : decode cL_run 15 = .ok (.iconst 1, 1) := by decide +kernel
theorem dL_run_16 : decode cL_run 16 = .ok (.ireturn, 1) := by decide +kernel
theorem dL_run_21 : decode cL_run 21 = .ok (.iconst 0, 1) := by decide +kernel
theorem dL_run_22 : decode cL_run 22 = .ok (.ireturn, 1) := by decide +kernel
theorem dL_set_0 : decode cL_set 0 = .ok (.aload_n 3, 1) := by decide +kernel
theorem dL_set_1 : decode cL_set 1 = .ok (.iconst 0, 1) := by decide +kernel
theorem dL_set_2 : decode cL_set 2 = .ok (.aload_n 0, 1) := by decide +kernel
theorem dL_set_3 : decode cL_set 3 = .ok (.iload_n 1, 1) := by decide +kernel
theorem dL_set_4 : decode cL_set 4 = .ok (.iload_n 2, 1) := by decide +kernel
theorem dL_set_5 : decode cL_set 5 = .ok (.invokevirtual 17, 3) := by decide +kernel
theorem dL_set_13 : decode cL_set 13 = .ok (.astore 4, 2) := by decide +kernel
theorem dL_set_15 : decode cL_set 15 = .ok (.iconst 1, 1) := by decide +kernel
theorem dL_set_16 : decode cL_set 16 = .ok (.ireturn, 1) := by decide +kernel
theorem dL_sharers_0 : decode cL_sharers 0 = .ok (.aload_n 2, 1) := by decide +kernel
theorem dL_sharers_1 : decode cL_sharers 1 = .ok (.iconst 0, 1) := by decide +kernel
theorem dL_sharers_2 : decode cL_sharers 2 = .ok (.aload_n 0, 1) := by decide +kernel
theorem dL_sharers_3 : decode cL_sharers 3 = .ok (.iload_n 1, 1) := by decide +kernel
theorem dL_sharers_4 : decode cL_sharers 4 = .ok (.invokevirtual 50, 3) := by decide +kernel
theorem dL_sharers_12 : decode cL_sharers 12 = .ok (.astore_n 3, 1) := by decide +kernel
theorem dL_sharers_13 : decode cL_sharers 13 = .ok (.iconst 1, 1) := by decide +kernel
theorem dL_sharers_14 : decode cL_sharers 14 = .ok (.ireturn, 1) := by decide +kernel
theorem dL_sign_0 : decode cL_sign 0 = .ok (.aload_n 3, 1) := by decide +kernel
theorem dL_sign_1 : decode cL_sign 1 = .ok (.iconst 0, 1) := by decide +kernel
theorem dL_sign_2 : decode cL_sign 2 = .ok (.aload_n 0, 1) := by decide +kernel
theorem dL_sign_3 : decode cL_sign 3 = .ok (.iload_n 1, 1) := by decide +kernel
theorem dL_sign_4 : decode cL_sign 4 = .ok (.iload_n 2, 1) := by decide +kernel
theorem dL_sign_5 : decode cL_sign 5 = .ok (.invokevirtual 103, 3) := by decide +kernel
theorem dL_sign_13 : decode cL_sign 13 = .ok (.astore 4, 2) := by decide +kernel
theorem dL_sign_15 : decode cL_sign 15 = .ok (.iconst 1, 1) := by decide +kernel
theorem dL_sign_16 : decode cL_sign 16 = .ok (.ireturn, 1) := by decide +kernel
theorem dL_size_0 : decode cL_size 0 = .ok (.aload_n 3, 1) := by decide +kernel
theorem dL_size_1 : decode cL_size 1 = .ok (.iconst 0, 1) := by decide +kernel
theorem dL_size_2 : decode cL_size 2 = .ok (.aload_n 0, 1) := by decide +kernel
theorem dL_size_3 : decode cL_size 3 = .ok (.iload_n 1, 1) := by decide +kernel
theorem dL_size_4 : decode cL_size 4 = .ok (.iload_n 2, 1) := by decide +kernel
theorem dL_size_5 : decode cL_size 5 = .ok (.invokevirtual 65, 3) := by decide +kernel
theorem dL_size_13 : decode cL_size 13 = .ok (.astore 4, 2) := by decide +kernel
theorem dL_size_15 : decode cL_size 15 = .ok (.iconst 1, 1) := by decide +kernel
theorem dL_size_16 : decode cL_size 16 = .ok (.ireturn, 1) := by decide +kernel
theorem dL_source_0 : decode cL_source 0 = .ok (.aload_n 2, 1) := by decide +kernel
theorem dL_source_1 : decode cL_source 1 = .ok (.iconst 0, 1) := by decide +kernel
theorem dL_source_2 : decode cL_source 2 = .ok (.aload_n 0, 1) := by decide +kernel
theorem dL_source_3 : decode cL_source 3 = .ok (.iload_n 1, 1) := by decide +kernel
theorem dL_source_4 : decode cL_source 4 = .ok (.invokevirtual 100, 3) := by decide +kernel
theorem dL_source_12 : decode cL_source 12 = .ok (.astore_n 3, 1) := by decide +kernel
theorem dL_source_13 : decode cL_source 13 = .ok (.iconst 1, 1) := by decide +kernel
theorem dL_source_14 : decode cL_source 14 = .ok (.ireturn, 1) := by decide +kernel
theorem dL_type_0 : decode cL_type 0 = .ok (.aload_n 2, 1) := by decide +kernel
theorem dL_type_1 : decode cL_type 1 = .ok (.iconst 0, 1) := by decide +kernel
theorem dL_type_2 : decode cL_type 2 = .ok (.aload_n 0, 1) := by decide +kernel
theorem dL_type_3 : decode cL_type 3 = .ok (.iload_n 1, 1) := by decide +kernel
theorem dL_type_4 : decode cL_type 4 = .ok (.invokevirtual 7, 3) := by decide +kernel
theorem dL_type_7 : decode cL_type 7 = .ok (.i2l, 1) := by decide +kernel
theorem dL_type_8 : decode cL_type 8 = .ok (.lastore, 1) := by decide +kernel
theorem dL_type_9 : decode cL_type 9 = .ok (.goto 9, 3) := by decide +kernel
theorem dL_type_12 : decode cL_type 12 = .ok (.astore_n 3, 1) := by decide +kernel
theorem dL_type_13 : decode cL_type 13 = .ok (.iconst 1, 1) := by decide +kernel
theorem dL_type_14 : decode cL_type 14 = .ok (.ireturn, 1) := by decide +kernel
theorem dL_type_18 : decode cL_type 18 = .ok (.iconst 0, 1) := by decide +kernel
theorem dL_type_19 : decode cL_type 19 = .ok (.ireturn, 1) := by decide +kernel
theorem dX0_init_0 : decode cX0_init 0 = .ok (.aload_n 0, 1) := by decide +kernel
theorem dX0_init_1 : decode cX0_init 1 = .ok (.invokespecial 3, 3) := by decide +kernel
theorem dX0_init_4 : decode cX0_init 4 = .ok (.aload_n 0, 1) := by decide +kernel
theorem dX0_init_5 : decode cX0_init 5 = .ok (.bipush 120, 2) := by decide +kernel
theorem dX0_init_7 : decode cX0_init 7 = .ok (.newarray .boolean, 2) := by decide +kernel
theorem dX0_init_9 : decode cX0_init 9 = .ok (.putfield 9, 3) := by decide +kernel
theorem dX0_init_12 : decode cX0_init 12 = .ok (.aload_n 0, 1) := by decide +kernel
theorem dX0_init_13 : decode cX0_init 13 = .ok (.bipush 120, 2) := by decide +kernel
theorem dX0_init_15 : decode cX0_init 15 = .ok (.newarray .boolean, 2) := by decide +kernel
theorem dX0_init_17 : decode cX0_init 17 = .ok (.putfield 15, 3) := by decide +kernel
theorem dX0_init_20 : decode cX0_init 20 = .ok (.aload_n 0, 1) := by decide +kernel
theorem dX0_init_21 : decode cX0_init 21 = .ok (.bipush 120, 2) := by decide +kernel
theorem dX0_init_23 : decode cX0_init 23 = .ok (.newarray .int, 2) := by decide +kernel
theorem dX0_init_25 : decode cX0_init 25 = .ok (.putfield 18, 3) := by decide +kernel
theorem dX0_init_28 : decode cX0_init 28 = .ok (.aload_n 0, 1) := by decide +kernel
theorem dX0_init_29 : decode cX0_init 29 = .ok (.bipush 120, 2) := by decide +kernel
theorem dX0_init_31 : decode cX0_init 31 = .ok (.newarray .int, 2) := by decide +kernel
theorem dX0_init_33 : decode cX0_init 33 = .ok (.putfield 22, 3) := by decide +kernel
theorem dX0_init_36 : decode cX0_init 36 = .ok (.aload_n 0, 1) := by decide +kernel
theorem dX0_init_37 : decode cX0_init 37 = .ok (.bipush 120, 2) := by decide +kernel
theorem dX0_init_39 : decode cX0_init 39 = .ok (.newarray .int, 2) := by decide +kernel
theorem dX0_init_41 : decode cX0_init 41 = .ok (.putfield 25, 3) := by decide +kernel
theorem dX0_init_44 : decode cX0_init 44 = .ok (.aload_n 0, 1) := by decide +kernel
theorem dX0_init_45 : decode cX0_init 45 = .ok (.bipush 120, 2) := by decide +kernel
theorem dX0_init_47 : decode cX0_init 47 = .ok (.newarray .int, 2) := by decide +kernel
theorem dX0_init_49 : decode cX0_init 49 = .ok (.putfield 28, 3) := by decide +kernel
theorem dX0_init_52 : decode cX0_init 52 = .ok (.aload_n 0, 1) := by decide +kernel
theorem dX0_init_53 : decode cX0_init 53 = .ok (.bipush 120, 2) := by decide +kernel
theorem dX0_init_55 : decode cX0_init 55 = .ok (.newarray .int, 2) := by decide +kernel
theorem dX0_init_57 : decode cX0_init 57 = .ok (.putfield 31, 3) := by decide +kernel
theorem dX0_init_60 : decode cX0_init 60 = .ok (.aload_n 0, 1) := by decide +kernel
theorem dX0_init_61 : decode cX0_init 61 = .ok (.bipush 120, 2) := by decide +kernel
theorem dX0_init_63 : decode cX0_init 63 = .ok (.newarray .int, 2) := by decide +kernel
theorem dX0_init_65 : decode cX0_init 65 = .ok (.putfield 34, 3) := by decide +kernel
theorem dX0_init_68 : decode cX0_init 68 = .ok (.aload_n 0, 1) := by decide +kernel
theorem dX0_init_69 : decode cX0_init 69 = .ok (.bipush 120, 2) := by decide +kernel
theorem dX0_init_71 : decode cX0_init 71 = .ok (.newarray .int, 2) := by decide +kernel
theorem dX0_init_73 : decode cX0_init 73 = .ok (.putfield 37, 3) := by decide +kernel
theorem dX0_init_76 : decode cX0_init 76 = .ok (.aload_n 0, 1) := by decide +kernel
theorem dX0_init_77 : decode cX0_init 77 = .ok (.bipush 120, 2) := by decide +kernel
theorem dX0_init_79 : decode cX0_init 79 = .ok (.newarray .int, 2) := by decide +kernel
theorem dX0_init_81 : decode cX0_init 81 = .ok (.putfield 40, 3) := by decide +kernel
theorem dX0_init_84 : decode cX0_init 84 = .ok (.aload_n 0, 1) := by decide +kernel
theorem dX0_init_85 : decode cX0_init 85 = .ok (.iconst 0, 1) := by decide +kernel
theorem dX0_init_86 : decode cX0_init 86 = .ok (.putfield 43, 3) := by decide +kernel
theorem dX0_init_89 : decode cX0_init 89 = .ok (.aload_n 0, 1) := by decide +kernel
theorem dX0_init_90 : decode cX0_init 90 = .ok (.iconst 0, 1) := by decide +kernel
theorem dX0_init_91 : decode cX0_init 91 = .ok (.putfield 47, 3) := by decide +kernel
theorem dX0_init_94 : decode cX0_init 94 = .ok (.aload_n 0, 1) := by decide +kernel
theorem dX0_init_95 : decode cX0_init 95 = .ok (.iconst 0, 1) := by decide +kernel
theorem dX0_init_96 : decode cX0_init 96 = .ok (.putfield 50, 3) := by decide +kernel
theorem dX0_init_99 : decode cX0_init 99 = .ok (.aload_n 0, 1) := by decide +kernel
theorem dX0_init_100 : decode cX0_init 100 = .ok (.aload_n 1, 1) := by decide +kernel
theorem dX0_init_101 : decode cX0_init 101 = .ok (.putfield 53, 3) := by decide +kernel
theorem dX0_init_104 : decode cX0_init 104 = .ok (.aload_n 0, 1) := by decide +kernel
theorem dX0_init_105 : decode cX0_init 105 = .ok (.aload_n 2, 1) := by decide +kernel
theorem dX0_init_106 : decode cX0_init 106 = .ok (.putfield 57, 3) := by decide +kernel
theorem dX0_init_109 : decode cX0_init 109 = .ok (.return_, 1) := by decide +kernel
theorem dX10_init_0 : decode cX10_init 0 = .ok (.aload_n 0, 1) := by decide +kernel
theorem dX10_init_1 : decode cX10_init 1 = .ok (.invokespecial 3, 3) := by decide +kernel
theorem dX10_init_4 : decode cX10_init 4 = .ok (.aload_n 0, 1) := by decide +kernel
theorem dX10_init_5 : decode cX10_init 5 = .ok (.new 9, 3) := by decide +kernel
theorem dX10_init_8 : decode cX10_init 8 = .ok (.dup, 1) := by decide +kernel
theorem dX10_init_9 : decode cX10_init 9 = .ok (.invokespecial 11, 3) := by decide +kernel
theorem dX10_init_12 : decode cX10_init 12 = .ok (.putfield 12, 3) := by decide +kernel
theorem dX10_init_15 : decode cX10_init 15 = .ok (.aload_n 0, 1) := by decide +kernel
theorem dX10_init_16 : decode cX10_init 16 = .ok (.new 9, 3) := by decide +kernel
theorem dX10_init_19 : decode cX10_init 19 = .ok (.dup, 1) := by decide +kernel
theorem dX10_init_20 : decode cX10_init 20 = .ok (.invokespecial 11, 3) := by decide +kernel
theorem dX10_init_23 : decode cX10_init 23 = .ok (.putfield 18, 3) := by decide +kernel
theorem dX10_init_26 : decode cX10_init 26 = .ok (.aload_n 0, 1) := by decide +kernel
theorem dX10_init_27 : decode cX10_init 27 = .ok (.bipush 120, 2) := by decide +kernel
theorem dX10_init_29 : decode cX10_init 29 = .ok (.newarray .int, 2) := by decide +kernel
theorem dX10_init_31 : decode cX10_init 31 = .ok (.putfield 21, 3) := by decide +kernel
theorem dX10_init_34 : decode cX10_init 34 = .ok (.aload_n 0, 1) := by decide +kernel
theorem dX10_init_35 : decode cX10_init 35 = .ok (.bipush 120, 2) := by decide +kernel
theorem dX10_init_37 : decode cX10_init 37 = .ok (.newarray .int, 2) := by decide +kernel
theorem dX10_init_39 : decode cX10_init 39 = .ok (.putfield 25, 3) := by decide +kernel
theorem dX10_init_42 : decode cX10_init 42 = .ok (.aload_n 0, 1) := by decide +kernel
theorem dX10_init_43 : decode cX10_init 43 = .ok (.bipush 120, 2) := by decide +kernel
theorem dX10_init_45 : decode cX10_init 45 = .ok (.newarray .int, 2) := by decide +kernel
theorem dX10_init_47 : decode cX10_init 47 = .ok (.putfield 28, 3) := by decide +kernel
theorem dX10_init_50 : decode cX10_init 50 = .ok (.aload_n 0, 1) := by decide +kernel
theorem dX10_init_51 : decode cX10_init 51 = .ok (.bipush 120, 2) := by decide +kernel
theorem dX10_init_53 : decode cX10_init 53 = .ok (.newarray .int, 2) := by decide +kernel
theorem dX10_init_55 : decode cX10_init 55 = .ok (.putfield 31, 3) := by decide +kernel
theorem dX10_init_58 : decode cX10_init 58 = .ok (.aload_n 0, 1) := by decide +kernel
theorem dX10_init_59 : decode cX10_init 59 = .ok (.bipush 120, 2) := by decide +kernel
theorem dX10_init_61 : decode cX10_init 61 = .ok (.newarray .int, 2) := by decide +kernel
theorem dX10_init_63 : decode cX10_init 63 = .ok (.putfield 34, 3) := by decide +kernel
theorem dX10_init_66 : decode cX10_init 66 = .ok (.aload_n 0, 1) := by decide +kernel
theorem dX10_init_67 : decode cX10_init 67 = .ok (.bipush 120, 2) := by decide +kernel
theorem dX10_init_69 : decode cX10_init 69 = .ok (.newarray .int, 2) := by decide +kernel
theorem dX10_init_71 : decode cX10_init 71 = .ok (.putfield 37, 3) := by decide +kernel
theorem dX10_init_74 : decode cX10_init 74 = .ok (.aload_n 0, 1) := by decide +kernel
theorem dX10_init_75 : decode cX10_init 75 = .ok (.bipush 120, 2) := by decide +kernel
theorem dX10_init_77 : decode cX10_init 77 = .ok (.newarray .int, 2) := by decide +kernel
theorem dX10_init_79 : decode cX10_init 79 = .ok (.putfield 40, 3) := by decide +kernel
theorem dX10_init_82 : decode cX10_init 82 = .ok (.aload_n 0, 1) := by decide +kernel
theorem dX10_init_83 : decode cX10_init 83 = .ok (.bipush 120, 2) := by decide +kernel
theorem dX10_init_85 : decode cX10_init 85 = .ok (.newarray .boolean, 2) := by decide +kernel
theorem dX10_init_87 : decode cX10_init 87 = .ok (.putfield 43, 3) := by decide +kernel
theorem dX10_init_90 : decode cX10_init 90 = .ok (.aload_n 0, 1) := by decide +kernel
theorem dX10_init_91 : decode cX10_init 91 = .ok (.bipush 120, 2) := by decide +kernel
theorem dX10_init_93 : decode cX10_init 93 = .ok (.newarray .boolean, 2) := by decide +kernel
theorem dX10_init_95 : decode cX10_init 95 = .ok (.putfield 47, 3) := by decide +kernel
theorem dX10_init_98 : decode cX10_init 98 = .ok (.aload_n 0, 1) := by decide +kernel
theorem dX10_init_99 : decode cX10_init 99 = .ok (.bipush 120, 2) := by decide +kernel
theorem dX10_init_101 : decode cX10_init 101 = .ok (.newarray .int, 2) := by decide +kernel
theorem dX10_init_103 : decode cX10_init 103 = .ok (.putfield 50, 3) := by decide +kernel
theorem dX10_init_106 : decode cX10_init 106 = .ok (.aload_n 0, 1) := by decide +kernel
theorem dX10_init_107 : decode cX10_init 107 = .ok (.bipush 120, 2) := by decide +kernel
theorem dX10_init_109 : decode cX10_init 109 = .ok (.newarray .int, 2) := by decide +kernel
theorem dX10_init_111 : decode cX10_init 111 = .ok (.putfield 53, 3) := by decide +kernel
theorem dX10_init_114 : decode cX10_init 114 = .ok (.aload_n 0, 1) := by decide +kernel
theorem dX10_init_115 : decode cX10_init 115 = .ok (.iconst 0, 1) := by decide +kernel
theorem dX10_init_116 : decode cX10_init 116 = .ok (.putfield 56, 3) := by decide +kernel
theorem dX10_init_119 : decode cX10_init 119 = .ok (.aload_n 0, 1) := by decide +kernel
theorem dX10_init_120 : decode cX10_init 120 = .ok (.iconst 0, 1) := by decide +kernel
theorem dX10_init_121 : decode cX10_init 121 = .ok (.putfield 60, 3) := by decide +kernel
theorem dX10_init_124 : decode cX10_init 124 = .ok (.aload_n 0, 1) := by decide +kernel
theorem dX10_init_125 : decode cX10_init 125 = .ok (.aload_n 1, 1) := by decide +kernel
theorem dX10_init_126 : decode cX10_init 126 = .ok (.putfield 63, 3) := by decide +kernel
theorem dX10_init_129 : decode cX10_init 129 = .ok (.return_, 1) := by decide +kernel
theorem dX11_agree_0 : decode cX11_agree 0 = .ok (.aload_n 0, 1) := by decide +kernel
theorem dX11_agree_1 : decode cX11_agree 1 = .ok (.iload_n 1, 1) := by decide +kernel
theorem dX11_agree_2 : decode cX11_agree 2 = .ok (.invokevirtual 276, 3) := by decide +kernel
theorem dX11_agree_5 : decode cX11_agree 5 = .ok (.aload_n 0, 1) := by decide +kernel
theorem dX11_agree_6 : decode cX11_agree 6 = .ok (.invokevirtual 164, 3) := by decide +kernel
theorem dX11_agree_9 : decode cX11_agree 9 = .ok (.aload_n 0, 1) := by decide +kernel
theorem dX11_agree_10 : decode cX11_agree 10 = .ok (.invokevirtual 261, 3) := by decide +kernel
theorem dX11_agree_13 : decode cX11_agree 13 = .ok (.aload_n 0, 1) := by decide +kernel
theorem dX11_agree_14 : decode cX11_agree 14 = .ok (.invokevirtual 264, 3) := by decide +kernel
theorem dX11_agree_17 : decode cX11_agree 17 = .ok (.aload_n 0, 1) := by decide +kernel
theorem dX11_agree_18 : decode cX11_agree 18 = .ok (.iload_n 1, 1) := by decide +kernel
theorem dX11_agree_19 : decode cX11_agree 19 = .ok (.invokevirtual 293, 3) := by decide +kernel
theorem dX11_agree_22 : decode cX11_agree 22 = .ok (.ireturn, 1) := by decide +kernel
theorem dX11_blocks_0 : decode cX11_blocks 0 = .ok (.aload_n 0, 1) := by decide +kernel
theorem dX11_blocks_1 : decode cX11_blocks 1 = .ok (.iload_n 1, 1) := by decide +kernel
theorem dX11_blocks_2 : decode cX11_blocks 2 = .ok (.invokevirtual 181, 3) := by decide +kernel
theorem dX11_build_0 : decode cX11_build 0 = .ok (.aload_n 0, 1) := by decide +kernel
theorem dX11_build_1 : decode cX11_build 1 = .ok (.getfield 113, 3) := by decide +kernel
theorem dX11_build_4 : decode cX11_build 4 = .ok (.ifCond .eq 4, 3) := by decide +kernel
theorem dX11_build_8 : decode cX11_build 8 = .ok (.aload_n 0, 1) := by decide +kernel
theorem dX11_build_9 : decode cX11_build 9 = .ok (.getfield 80, 3) := by decide +kernel
theorem dX11_build_12 : decode cX11_build 12 = .ok (.aload_n 0, 1) := by decide +kernel
theorem dX11_build_13 : decode cX11_build 13 = .ok (.getfield 39, 3) := by decide +kernel
theorem dX11_build_16 : decode cX11_build 16 = .ok (.invokevirtual 180, 3) := by decide +kernel
theorem dX11_build_19 : decode cX11_build 19 = .ok (.ifCond .le 18, 3) := by decide +kernel
theorem dX11_build_37 : decode cX11_build 37 = .ok (.iconst 0, 1) := by decide +kernel
theorem dX11_build_38 : decode cX11_build 38 = .ok (.invokevirtual 368, 3) := by decide +kernel
theorem dX11_build_41 : decode cX11_build 41 = .ok (.iconst 0, 1) := by decide +kernel
theorem dX11_build_42 : decode cX11_build 42 = .ok (.istore_n 1, 1) := by decide +kernel
theorem dX11_build_43 : decode cX11_build 43 = .ok (.iload_n 1, 1) := by decide +kernel
theorem dX11_build_44 : decode cX11_build 44 = .ok (.aload_n 0, 1) := by decide +kernel
theorem dX11_build_45 : decode cX11_build 45 = .ok (.getfield 39, 3) := by decide +kernel
theorem dX11_build_48 : decode cX11_build 48 = .ok (.invokevirtual 180, 3) := by decide +kernel
theorem dX11_build_51 : decode cX11_build 51 = .ok (.if_icmp .ge 46, 3) := by decide +kernel
theorem dX11_build_97 : decode cX11_build 97 = .ok (.aload_n 0, 1) := by decide +kernel
theorem dX11_build_98 : decode cX11_build 98 = .ok (.getfield 80, 3) := by decide +kernel
theorem dX11_build_101 : decode cX11_build 101 = .ok (.invokevirtual 374, 3) := by decide +kernel
theorem dX11_build_104 : decode cX11_build 104 = .ok (.aload_n 0, 1) := by decide +kernel
theorem dX11_build_105 : decode cX11_build 105 = .ok (.iconst 1, 1) := by decide +kernel
theorem dX11_build_106 : decode cX11_build 106 = .ok (.putfield 113, 3) := by decide +kernel
theorem dX11_build_109 : decode cX11_build 109 = .ok (.return_, 1) := by decide +kernel
theorem dX11_byteAt_0 : decode cX11_byteAt 0 = .ok (.aload_n 0, 1) := by decide +kernel
theorem dX11_byteAt_1 : decode cX11_byteAt 1 = .ok (.iload_n 1, 1) := by decide +kernel
theorem dX11_byteAt_2 : decode cX11_byteAt 2 = .ok (.invokevirtual 147, 3) := by decide +kernel
theorem dX11_calls_0 : decode cX11_calls 0 = .ok (.aload_n 0, 1) := by decide +kernel
theorem dX11_calls_1 : decode cX11_calls 1 = .ok (.iload_n 1, 1) := by decide +kernel
theorem dX11_calls_2 : decode cX11_calls 2 = .ok (.invokevirtual 181, 3) := by decide +kernel
theorem dX11_checkBlock_0 : decode cX11_checkBlock 0 = .ok (.aload_n 0, 1) := by decide +kernel
theorem dX11_checkBlock_1 : decode cX11_checkBlock 1 = .ok (.invokevirtual 164, 3) := by decide +kernel
theorem dX11_checkBlock_4 : decode cX11_checkBlock 4 = .ok (.aload_n 0, 1) := by decide +kernel
theorem dX11_checkBlock_5 : decode cX11_checkBlock 5 = .ok (.getfield 39, 3) := by decide +kernel
theorem dX11_checkBlock_8 : decode cX11_checkBlock 8 = .ok (.iload_n 1, 1) := by decide +kernel
theorem dX11_checkBlock_9 : decode cX11_checkBlock 9 = .ok (.invokevirtual 333, 3) := by decide +kernel
theorem dX11_checkBlock_12 : decode cX11_checkBlock 12 = .ok (.ifCond .ne 14, 3) := by decide +kernel
theorem dX11_checkBlock_15 : decode cX11_checkBlock 15 = .ok (.new 330, 3) := by decide +kernel
theorem dX11_checkBlock_18 : decode cX11_checkBlock 18 = .ok (.dup, 1) := by decide +kernel
theorem dX11_checkBlock_19 : decode cX11_checkBlock 19 = .ok (.ldc_w 336, 3) := by decide +kernel
theorem dX11_checkBlock_22 : decode cX11_checkBlock 22 = .ok (.invokespecial 332, 3) := by decide +kernel
theorem dX11_checkBlock_25 : decode cX11_checkBlock 25 = .ok (.athrow, 1) := by decide +kernel
theorem dX11_checkCompiled_0 : decode cX11_checkCompiled 0 = .ok (.aload_n 0, 1) := by decide +kernel
theorem dX11_checkCompiled_1 : decode cX11_checkCompiled 1 = .ok (.getfield 80, 3) := by decide +kernel
theorem dX11_checkCompiled_4 : decode cX11_checkCompiled 4 = .ok (.invokevirtual 267, 3) := by decide +kernel
theorem dX11_checkCompiled_7 : decode cX11_checkCompiled 7 = .ok (.sipush 240, 3) := by decide +kernel
theorem dX11_checkCompiled_10 : decode cX11_checkCompiled 10 = .ok (.if_icmp .le 14, 3) := by decide +kernel
theorem dX11_checkCompiled_24 : decode cX11_checkCompiled 24 = .ok (.return_, 1) := by decide +kernel
theorem dX11_checkFunction_0 : decode cX11_checkFunction 0 = .ok (.aload_n 0, 1) := by decide +kernel
theorem dX11_checkFunction_1 : decode cX11_checkFunction 1 = .ok (.invokevirtual 164, 3) := by decide +kernel
theorem dX11_checkFunction_4 : decode cX11_checkFunction 4 = .ok (.aload_n 0, 1) := by decide +kernel
theorem dX11_checkFunction_5 : decode cX11_checkFunction 5 = .ok (.getfield 39, 3) := by decide +kernel
theorem dX11_checkFunction_8 : decode cX11_checkFunction 8 = .ok (.iload_n 1, 1) := by decide +kernel
theorem dX11_checkFunction_9 : decode cX11_checkFunction 9 = .ok (.invokevirtual 333, 3) := by decide +kernel
theorem dX11_checkFunction_12 : decode cX11_checkFunction 12 = .ok (.ifCond .ne 14, 3) := by decide +kernel
theorem dX11_checkFunction_15 : decode cX11_checkFunction 15 = .ok (.new 330, 3) := by decide +kernel
theorem dX11_checkFunction_18 : decode cX11_checkFunction 18 = .ok (.dup, 1) := by decide +kernel
theorem dX11_checkFunction_19 : decode cX11_checkFunction 19 = .ok (.ldc_w 336, 3) := by decide +kernel
theorem dX11_checkFunction_22 : decode cX11_checkFunction 22 = .ok (.invokespecial 332, 3) := by decide +kernel
theorem dX11_checkFunction_25 : decode cX11_checkFunction 25 = .ok (.athrow, 1) := by decide +kernel
theorem dX11_checkInstruction_0 : decode cX11_checkInstruction 0 = .ok (.aload_n 0, 1) := by decide +kernel
theorem dX11_checkInstruction_1 : decode cX11_checkInstruction 1 = .ok (.invokevirtual 164, 3) := by decide +kernel
theorem dX11_checkInstruction_4 : decode cX11_checkInstruction 4 = .ok (.aload_n 0, 1) := by decide +kernel
theorem dX11_checkInstruction_5 : decode cX11_checkInstruction 5 = .ok (.getfield 39, 3) := by decide +kernel
theorem dX11_checkInstruction_8 : decode cX11_checkInstruction 8 = .ok (.iload_n 1, 1) := by decide +kernel
theorem dX11_checkInstruction_9 : decode cX11_checkInstruction 9 = .ok (.invokevirtual 333, 3) := by decide +kernel
theorem dX11_checkInstruction_12 : decode cX11_checkInstruction 12 = .ok (.ifCond .ne 14, 3) := by decide +kernel
theorem dX11_checkInstruction_15 : decode cX11_checkInstruction 15 = .ok (.new 330, 3) := by decide +kernel
theorem dX11_checkInstruction_18 : decode cX11_checkInstruction 18 = .ok (.dup, 1) := by decide +kernel
theorem dX11_checkInstruction_19 : decode cX11_checkInstruction 19 = .ok (.ldc_w 336, 3) := by decide +kernel
theorem dX11_checkInstruction_22 : decode cX11_checkInstruction 22 = .ok (.invokespecial 332, 3) := by decide +kernel
theorem dX11_checkInstruction_25 : decode cX11_checkInstruction 25 = .ok (.athrow, 1) := by decide +kernel
theorem dX11_checkPlace_0 : decode cX11_checkPlace 0 = .ok (.iload_n 1, 1) := by decide +kernel
theorem dX11_checkPlace_1 : decode cX11_checkPlace 1 = .ok (.ifCond .lt 14, 3) := by decide +kernel
theorem dX11_checkPlace_4 : decode cX11_checkPlace 4 = .ok (.iload_n 1, 1) := by decide +kernel
theorem dX11_checkPlace_5 : decode cX11_checkPlace 5 = .ok (.aload_n 0, 1) := by decide +kernel
theorem dX11_checkPlace_6 : decode cX11_checkPlace 6 = .ok (.getfield 10, 3) := by decide +kernel
theorem dX11_checkPlace_9 : decode cX11_checkPlace 9 = .ok (.invokevirtual 127, 3) := by decide +kernel
theorem dX11_checkPlace_12 : decode cX11_checkPlace 12 = .ok (.if_icmp .lt 14, 3) := by decide +kernel
theorem dX11_checkPlace_15 : decode cX11_checkPlace 15 = .ok (.new 330, 3) := by decide +kernel
theorem dX11_checkPlace_18 : decode cX11_checkPlace 18 = .ok (.dup, 1) := by decide +kernel
theorem dX11_checkPlace_19 : decode cX11_checkPlace 19 = .ok (.ldc_w 268, 3) := by decide +kernel
theorem dX11_checkPlace_22 : decode cX11_checkPlace 22 = .ok (.invokespecial 332, 3) := by decide +kernel
theorem dX11_checkPlace_25 : decode cX11_checkPlace 25 = .ok (.athrow, 1) := by decide +kernel
theorem dX11_checkSteps_0 : decode cX11_checkSteps 0 = .ok (.iload_n 1, 1) := by decide +kernel
theorem dX11_checkSteps_1 : decode cX11_checkSteps 1 = .ok (.ifCond .lt 10, 3) := by decide +kernel
theorem dX11_checkSteps_4 : decode cX11_checkSteps 4 = .ok (.iload_n 1, 1) := by decide +kernel
theorem dX11_checkSteps_5 : decode cX11_checkSteps 5 = .ok (.sipush 2000, 3) := by decide +kernel
theorem dX11_checkSteps_8 : decode cX11_checkSteps 8 = .ok (.if_icmp .le 14, 3) := by decide +kernel
theorem dX11_checkSteps_11 : decode cX11_checkSteps 11 = .ok (.new 120, 3) := by decide +kernel
theorem dX11_checkSteps_14 : decode cX11_checkSteps 14 = .ok (.dup, 1) := by decide +kernel
theorem dX11_checkSteps_15 : decode cX11_checkSteps 15 = .ok (.ldc_w 345, 3) := by decide +kernel
theorem dX11_checkSteps_18 : decode cX11_checkSteps 18 = .ok (.invokespecial 124, 3) := by decide +kernel
theorem dX11_checkSteps_21 : decode cX11_checkSteps 21 = .ok (.athrow, 1) := by decide +kernel
theorem dX11_checkSteps_22 : decode cX11_checkSteps 22 = .ok (.return_, 1) := by decide +kernel
theorem dX11_checksum_0 : decode cX11_checksum 0 = .ok (.aload_n 0, 1) := by decide +kernel
theorem dX11_checksum_1 : decode cX11_checksum 1 = .ok (.invokevirtual 164, 3) := by decide +kernel
theorem dX11_checksum_4 : decode cX11_checksum 4 = .ok (.ldc2_w 314, 3) := by decide +kernel
theorem dX11_checksum_7 : decode cX11_checksum 7 = .ok (.lstore_n 1, 1) := by decide +kernel
theorem dX11_checksum_8 : decode cX11_checksum 8 = .ok (.iconst 0, 1) := by decide +kernel
theorem dX11_checksum_9 : decode cX11_checksum 9 = .ok (.istore_n 3, 1) := by decide +kernel
theorem dX11_checksum_10 : decode cX11_checksum 10 = .ok (.iload_n 3, 1) := by decide +kernel
theorem dX11_checksum_11 : decode cX11_checksum 11 = .ok (.aload_n 0, 1) := by decide +kernel
theorem dX11_checksum_12 : decode cX11_checksum 12 = .ok (.getfield 10, 3) := by decide +kernel
theorem dX11_checksum_15 : decode cX11_checksum 15 = .ok (.invokevirtual 127, 3) := by decide +kernel
theorem dX11_checksum_18 : decode cX11_checksum 18 = .ok (.if_icmp .ge 25, 3) := by decide +kernel
theorem dX11_checksum_43 : decode cX11_checksum 43 = .ok (.iconst 0, 1) := by decide +kernel
theorem dX11_checksum_44 : decode cX11_checksum 44 = .ok (.istore_n 3, 1) := by decide +kernel
theorem dX11_checksum_45 : decode cX11_checksum 45 = .ok (.iload_n 3, 1) := by decide +kernel
theorem dX11_checksum_46 : decode cX11_checksum 46 = .ok (.aload_n 0, 1) := by decide +kernel
theorem dX11_checksum_47 : decode cX11_checksum 47 = .ok (.getfield 39, 3) := by decide +kernel
theorem dX11_checksum_50 : decode cX11_checksum 50 = .ok (.invokevirtual 180, 3) := by decide +kernel
theorem dX11_checksum_53 : decode cX11_checksum 53 = .ok (.if_icmp .ge 45, 3) := by decide +kernel
theorem dX11_checksum_98 : decode cX11_checksum 98 = .ok (.lload_n 1, 1) := by decide +kernel
theorem dX11_checksum_99 : decode cX11_checksum 99 = .ok (.lreturn, 1) := by decide +kernel
theorem dX11_codeShare_0 : decode cX11_codeShare 0 = .ok (.aload_n 0, 1) := by decide +kernel
theorem dX11_codeShare_1 : decode cX11_codeShare 1 = .ok (.getfield 10, 3) := by decide +kernel
theorem dX11_codeShare_4 : decode cX11_codeShare 4 = .ok (.invokevirtual 127, 3) := by decide +kernel
theorem dX11_codeShare_7 : decode cX11_codeShare 7 = .ok (.ifCond .gt 14, 3) := by decide +kernel
theorem dX11_codeShare_10 : decode cX11_codeShare 10 = .ok (.new 318, 3) := by decide +kernel
theorem dX11_codeShare_13 : decode cX11_codeShare 13 = .ok (.dup, 1) := by decide +kernel
theorem dX11_codeShare_14 : decode cX11_codeShare 14 = .ok (.ldc_w 320, 3) := by decide +kernel
theorem dX11_codeShare_17 : decode cX11_codeShare 17 = .ok (.invokespecial 322, 3) := by decide +kernel
theorem dX11_codeShare_20 : decode cX11_codeShare 20 = .ok (.athrow, 1) := by decide +kernel
theorem dX11_compiled_0 : decode cX11_compiled 0 = .ok (.aload_n 0, 1) := by decide +kernel
theorem dX11_compiled_1 : decode cX11_compiled 1 = .ok (.invokevirtual 164, 3) := by decide +kernel
theorem dX11_compiled_4 : decode cX11_compiled 4 = .ok (.aload_n 0, 1) := by decide +kernel
theorem dX11_compiled_5 : decode cX11_compiled 5 = .ok (.invokevirtual 261, 3) := by decide +kernel
theorem dX11_compiled_8 : decode cX11_compiled 8 = .ok (.aload_n 0, 1) := by decide +kernel
theorem dX11_compiled_9 : decode cX11_compiled 9 = .ok (.invokevirtual 264, 3) := by decide +kernel
theorem dX11_compiled_12 : decode cX11_compiled 12 = .ok (.aload_n 0, 1) := by decide +kernel
theorem dX11_compiled_13 : decode cX11_compiled 13 = .ok (.getfield 80, 3) := by decide +kernel
theorem dX11_compiled_16 : decode cX11_compiled 16 = .ok (.invokevirtual 267, 3) := by decide +kernel
theorem dX11_compiled_19 : decode cX11_compiled 19 = .ok (.ireturn, 1) := by decide +kernel
theorem dX11_compiledByte_0 : decode cX11_compiledByte 0 = .ok (.aload_n 0, 1) := by decide +kernel
theorem dX11_compiledByte_1 : decode cX11_compiledByte 1 = .ok (.invokevirtual 164, 3) := by decide +kernel
theorem dX11_compiledByte_4 : decode cX11_compiledByte 4 = .ok (.aload_n 0, 1) := by decide +kernel
theorem dX11_compiledByte_5 : decode cX11_compiledByte 5 = .ok (.invokevirtual 261, 3) := by decide +kernel
theorem dX11_compiledByte_8 : decode cX11_compiledByte 8 = .ok (.aload_n 0, 1) := by decide +kernel
theorem dX11_compiledByte_9 : decode cX11_compiledByte 9 = .ok (.invokevirtual 264, 3) := by decide +kernel
theorem dX11_compiledByte_12 : decode cX11_compiledByte 12 = .ok (.iload_n 1, 1) := by decide +kernel
theorem dX11_compiledByte_13 : decode cX11_compiledByte 13 = .ok (.ifCond .lt 14, 3) := by decide +kernel
theorem dX11_compiledByte_16 : decode cX11_compiledByte 16 = .ok (.iload_n 1, 1) := by decide +kernel
theorem dX11_compiledByte_17 : decode cX11_compiledByte 17 = .ok (.aload_n 0, 1) := by decide +kernel
theorem dX11_compiledByte_18 : decode cX11_compiledByte 18 = .ok (.getfield 80, 3) := by decide +kernel
theorem dX11_compiledByte_21 : decode cX11_compiledByte 21 = .ok (.invokevirtual 267, 3) := by decide +kernel
theorem dX11_compiledByte_24 : decode cX11_compiledByte 24 = .ok (.if_icmp .lt 14, 3) := by decide +kernel
theorem dX11_compiledByte_27 : decode cX11_compiledByte 27 = .ok (.new 191, 3) := by decide +kernel
theorem dX11_compiledByte_30 : decode cX11_compiledByte 30 = .ok (.dup, 1) := by decide +kernel
theorem dX11_compiledByte_31 : decode cX11_compiledByte 31 = .ok (.ldc_w 268, 3) := by decide +kernel
theorem dX11_compiledByte_34 : decode cX11_compiledByte 34 = .ok (.invokespecial 195, 3) := by decide +kernel
theorem dX11_compiledByte_37 : decode cX11_compiledByte 37 = .ok (.athrow, 1) := by decide +kernel
theorem dX11_compiledByte_38 : decode cX11_compiledByte 38 = .ok (.aload_n 0, 1) := by decide +kernel
theorem dX11_compiledByte_39 : decode cX11_compiledByte 39 = .ok (.getfield 80, 3) := by decide +kernel
theorem dX11_compiledByte_42 : decode cX11_compiledByte 42 = .ok (.invokevirtual 270, 3) := by decide +kernel
theorem dX11_compiledByte_45 : decode cX11_compiledByte 45 = .ok (.iload_n 1, 1) := by decide +kernel
theorem dX11_compiledByte_46 : decode cX11_compiledByte 46 = .ok (.invokevirtual 150, 3) := by decide +kernel
theorem dX11_compiledByte_49 : decode cX11_compiledByte 49 = .ok (.ireturn, 1) := by decide +kernel
theorem dX11_depth_0 : decode cX11_depth 0 = .ok (.aload_n 0, 1) := by decide +kernel
theorem dX11_depth_1 : decode cX11_depth 1 = .ok (.iload_n 1, 1) := by decide +kernel
theorem dX11_depth_2 : decode cX11_depth 2 = .ok (.iload_n 2, 1) := by decide +kernel
theorem dX11_depth_3 : decode cX11_depth 3 = .ok (.invokevirtual 203, 3) := by decide +kernel
theorem dX11_doubts_0 : decode cX11_doubts 0 = .ok (.aload_n 0, 1) := by decide +kernel
theorem dX11_doubts_1 : decode cX11_doubts 1 = .ok (.invokevirtual 164, 3) := by decide +kernel
theorem dX11_doubts_4 : decode cX11_doubts 4 = .ok (.iconst 0, 1) := by decide +kernel
theorem dX11_doubts_5 : decode cX11_doubts 5 = .ok (.istore_n 1, 1) := by decide +kernel
theorem dX11_doubts_6 : decode cX11_doubts 6 = .ok (.iconst 0, 1) := by decide +kernel
theorem dX11_doubts_7 : decode cX11_doubts 7 = .ok (.istore_n 2, 1) := by decide +kernel
theorem dX11_doubts_8 : decode cX11_doubts 8 = .ok (.iload_n 2, 1) := by decide +kernel
theorem dX11_doubts_9 : decode cX11_doubts 9 = .ok (.aload_n 0, 1) := by decide +kernel
theorem dX11_doubts_10 : decode cX11_doubts 10 = .ok (.getfield 10, 3) := by decide +kernel
theorem dX11_doubts_13 : decode cX11_doubts 13 = .ok (.invokevirtual 127, 3) := by decide +kernel
theorem dX11_doubts_16 : decode cX11_doubts 16 = .ok (.if_icmp .ge 23, 3) := by decide +kernel
theorem dX11_doubts_39 : decode cX11_doubts 39 = .ok (.iload_n 1, 1) := by decide +kernel
theorem dX11_doubts_40 : decode cX11_doubts 40 = .ok (.ireturn, 1) := by decide +kernel
theorem dX11_dry_0 : decode cX11_dry 0 = .ok (.aload_n 0, 1) := by decide +kernel
theorem dX11_dry_1 : decode cX11_dry 1 = .ok (.getfield 27, 3) := by decide +kernel
theorem dX11_dry_4 : decode cX11_dry 4 = .ok (.istore_n 1, 1) := by decide +kernel
theorem dX11_dry_5 : decode cX11_dry 5 = .ok (.aload_n 0, 1) := by decide +kernel
theorem dX11_dry_6 : decode cX11_dry 6 = .ok (.iconst 0, 1) := by decide +kernel
theorem dX11_dry_7 : decode cX11_dry 7 = .ok (.putfield 27, 3) := by decide +kernel
theorem dX11_dry_10 : decode cX11_dry 10 = .ok (.iload_n 1, 1) := by decide +kernel
theorem dX11_dry_11 : decode cX11_dry 11 = .ok (.ireturn, 1) := by decide +kernel
theorem dX11_entry_0 : decode cX11_entry 0 = .ok (.aload_n 0, 1) := by decide +kernel
theorem dX11_entry_1 : decode cX11_entry 1 = .ok (.iload_n 1, 1) := by decide +kernel
theorem dX11_entry_2 : decode cX11_entry 2 = .ok (.invokevirtual 147, 3) := by decide +kernel
theorem dX11_entryOf_0 : decode cX11_entryOf 0 = .ok (.aload_n 0, 1) := by decide +kernel
theorem dX11_entryOf_1 : decode cX11_entryOf 1 = .ok (.iload_n 1, 1) := by decide +kernel
theorem dX11_entryOf_2 : decode cX11_entryOf 2 = .ok (.invokevirtual 181, 3) := by decide +kernel
theorem dX11_first_0 : decode cX11_first 0 = .ok (.aload_n 0, 1) := by decide +kernel
theorem dX11_first_1 : decode cX11_first 1 = .ok (.iload_n 1, 1) := by decide +kernel
theorem dX11_first_2 : decode cX11_first 2 = .ok (.iload_n 2, 1) := by decide +kernel
theorem dX11_first_3 : decode cX11_first 3 = .ok (.invokevirtual 203, 3) := by decide +kernel
theorem dX11_forget_0 : decode cX11_forget 0 = .ok (.aload_n 0, 1) := by decide +kernel
theorem dX11_forget_1 : decode cX11_forget 1 = .ok (.iconst 0, 1) := by decide +kernel
theorem dX11_forget_2 : decode cX11_forget 2 = .ok (.putfield 104, 3) := by decide +kernel
theorem dX11_forget_5 : decode cX11_forget 5 = .ok (.aload_n 0, 1) := by decide +kernel
theorem dX11_forget_6 : decode cX11_forget 6 = .ok (.iconst (-1), 1) := by decide +kernel
theorem dX11_forget_7 : decode cX11_forget 7 = .ok (.putfield 107, 3) := by decide +kernel
theorem dX11_forget_10 : decode cX11_forget 10 = .ok (.aload_n 0, 1) := by decide +kernel
theorem dX11_forget_11 : decode cX11_forget 11 = .ok (.iconst (-1), 1) := by decide +kernel
theorem dX11_forget_12 : decode cX11_forget 12 = .ok (.putfield 110, 3) := by decide +kernel
theorem dX11_forget_15 : decode cX11_forget 15 = .ok (.aload_n 0, 1) := by decide +kernel
theorem dX11_forget_16 : decode cX11_forget 16 = .ok (.iconst 0, 1) := by decide +kernel
theorem dX11_forget_17 : decode cX11_forget 17 = .ok (.putfield 113, 3) := by decide +kernel
theorem dX11_forget_20 : decode cX11_forget 20 = .ok (.return_, 1) := by decide +kernel
theorem dX11_functionOf_0 : decode cX11_functionOf 0 = .ok (.aload_n 0, 1) := by decide +kernel
theorem dX11_functionOf_1 : decode cX11_functionOf 1 = .ok (.iload_n 1, 1) := by decide +kernel
theorem dX11_functionOf_2 : decode cX11_functionOf 2 = .ok (.invokevirtual 147, 3) := by decide +kernel
theorem dX11_functions_0 : decode cX11_functions 0 = .ok (.aload_n 0, 1) := by decide +kernel
theorem dX11_functions_1 : decode cX11_functions 1 = .ok (.invokevirtual 164, 3) := by decide +kernel
theorem dX11_functions_4 : decode cX11_functions 4 = .ok (.aload_n 0, 1) := by decide +kernel
theorem dX11_functions_5 : decode cX11_functions 5 = .ok (.getfield 39, 3) := by decide +kernel
theorem dX11_functions_8 : decode cX11_functions 8 = .ok (.invokevirtual 180, 3) := by decide +kernel
theorem dX11_functions_11 : decode cX11_functions 11 = .ok (.ireturn, 1) := by decide +kernel
theorem dX11_init_0 : decode cX11_init 0 = .ok (.aload_n 0, 1) := by decide +kernel
theorem dX11_init_1 : decode cX11_init 1 = .ok (.invokespecial 1, 3) := by decide +kernel
theorem dX11_init_4 : decode cX11_init 4 = .ok (.aload_n 0, 1) := by decide +kernel
theorem dX11_init_5 : decode cX11_init 5 = .ok (.new 7, 3) := by decide +kernel
theorem dX11_init_8 : decode cX11_init 8 = .ok (.dup, 1) := by decide +kernel
theorem dX11_init_9 : decode cX11_init 9 = .ok (.invokespecial 9, 3) := by decide +kernel
theorem dX11_init_12 : decode cX11_init 12 = .ok (.putfield 10, 3) := by decide +kernel
theorem dX11_init_15 : decode cX11_init 15 = .ok (.aload_n 0, 1) := by decide +kernel
theorem dX11_init_16 : decode cX11_init 16 = .ok (.iconst 4, 1) := by decide +kernel
theorem dX11_init_17 : decode cX11_init 17 = .ok (.newarray .int, 2) := by decide +kernel
theorem dX11_init_19 : decode cX11_init 19 = .ok (.putfield 16, 3) := by decide +kernel
theorem dX11_init_22 : decode cX11_init 22 = .ok (.aload_n 0, 1) := by decide +kernel
theorem dX11_init_23 : decode cX11_init 23 = .ok (.iconst 0, 1) := by decide +kernel
theorem dX11_init_24 : decode cX11_init 24 = .ok (.putfield 20, 3) := by decide +kernel
theorem dX11_init_27 : decode cX11_init 27 = .ok (.aload_n 0, 1) := by decide +kernel
theorem dX11_init_28 : decode cX11_init 28 = .ok (.bipush 12, 2) := by decide +kernel
theorem dX11_init_30 : decode cX11_init 30 = .ok (.newarray .int, 2) := by decide +kernel
theorem dX11_init_32 : decode cX11_init 32 = .ok (.putfield 24, 3) := by decide +kernel
theorem dX11_init_35 : decode cX11_init 35 = .ok (.aload_n 0, 1) := by decide +kernel
theorem dX11_init_36 : decode cX11_init 36 = .ok (.iconst 0, 1) := by decide +kernel
theorem dX11_init_37 : decode cX11_init 37 = .ok (.putfield 27, 3) := by decide +kernel
theorem dX11_init_40 : decode cX11_init 40 = .ok (.aload_n 0, 1) := by decide +kernel
theorem dX11_init_41 : decode cX11_init 41 = .ok (.iconst 0, 1) := by decide +kernel
theorem dX11_init_42 : decode cX11_init 42 = .ok (.putfield 30, 3) := by decide +kernel
theorem dX11_init_45 : decode cX11_init 45 = .ok (.aload_n 0, 1) := by decide +kernel
theorem dX11_init_46 : decode cX11_init 46 = .ok (.new 34, 3) := by decide +kernel
theorem dX11_init_49 : decode cX11_init 49 = .ok (.dup, 1) := by decide +kernel
theorem dX11_init_50 : decode cX11_init 50 = .ok (.aload_n 0, 1) := by decide +kernel
theorem dX11_init_51 : decode cX11_init 51 = .ok (.getfield 10, 3) := by decide +kernel
theorem dX11_init_54 : decode cX11_init 54 = .ok (.invokespecial 36, 3) := by decide +kernel
theorem dX11_init_57 : decode cX11_init 57 = .ok (.putfield 39, 3) := by decide +kernel
theorem dX11_init_60 : decode cX11_init 60 = .ok (.aload_n 0, 1) := by decide +kernel
theorem dX11_init_61 : decode cX11_init 61 = .ok (.new 43, 3) := by decide +kernel
theorem dX11_init_64 : decode cX11_init 64 = .ok (.dup, 1) := by decide +kernel
theorem dX11_init_65 : decode cX11_init 65 = .ok (.aload_n 0, 1) := by decide +kernel
theorem dX11_init_66 : decode cX11_init 66 = .ok (.getfield 10, 3) := by decide +kernel
theorem dX11_init_69 : decode cX11_init 69 = .ok (.aload_n 0, 1) := by decide +kernel
theorem dX11_init_70 : decode cX11_init 70 = .ok (.getfield 39, 3) := by decide +kernel
theorem dX11_init_73 : decode cX11_init 73 = .ok (.invokespecial 45, 3) := by decide +kernel
theorem dX11_init_76 : decode cX11_init 76 = .ok (.putfield 48, 3) := by decide +kernel
theorem dX11_init_79 : decode cX11_init 79 = .ok (.aload_n 0, 1) := by decide +kernel
theorem dX11_init_80 : decode cX11_init 80 = .ok (.new 52, 3) := by decide +kernel
theorem dX11_init_83 : decode cX11_init 83 = .ok (.dup, 1) := by decide +kernel
theorem dX11_init_84 : decode cX11_init 84 = .ok (.aload_n 0, 1) := by decide +kernel
theorem dX11_init_85 : decode cX11_init 85 = .ok (.getfield 48, 3) := by decide +kernel
theorem dX11_init_88 : decode cX11_init 88 = .ok (.invokespecial 54, 3) := by decide +kernel
theorem dX11_init_91 : decode cX11_init 91 = .ok (.putfield 57, 3) := by decide +kernel
theorem dX11_init_94 : decode cX11_init 94 = .ok (.aload_n 0, 1) := by decide +kernel
theorem dX11_init_95 : decode cX11_init 95 = .ok (.new 61, 3) := by decide +kernel
theorem dX11_init_98 : decode cX11_init 98 = .ok (.dup, 1) := by decide +kernel
theorem dX11_init_99 : decode cX11_init 99 = .ok (.aload_n 0, 1) := by decide +kernel
theorem dX11_init_100 : decode cX11_init 100 = .ok (.getfield 10, 3) := by decide +kernel
theorem dX11_init_103 : decode cX11_init 103 = .ok (.aload_n 0, 1) := by decide +kernel
theorem dX11_init_104 : decode cX11_init 104 = .ok (.getfield 39, 3) := by decide +kernel
theorem dX11_init_107 : decode cX11_init 107 = .ok (.invokespecial 63, 3) := by decide +kernel
theorem dX11_init_110 : decode cX11_init 110 = .ok (.putfield 64, 3) := by decide +kernel
theorem dX11_init_113 : decode cX11_init 113 = .ok (.aload_n 0, 1) := by decide +kernel
theorem dX11_init_114 : decode cX11_init 114 = .ok (.new 68, 3) := by decide +kernel
theorem dX11_init_117 : decode cX11_init 117 = .ok (.dup, 1) := by decide +kernel
theorem dX11_init_118 : decode cX11_init 118 = .ok (.aload_n 0, 1) := by decide +kernel
theorem dX11_init_119 : decode cX11_init 119 = .ok (.getfield 10, 3) := by decide +kernel
theorem dX11_init_122 : decode cX11_init 122 = .ok (.aload_n 0, 1) := by decide +kernel
theorem dX11_init_123 : decode cX11_init 123 = .ok (.getfield 48, 3) := by decide +kernel
theorem dX11_init_126 : decode cX11_init 126 = .ok (.aload_n 0, 1) := by decide +kernel
theorem dX11_init_127 : decode cX11_init 127 = .ok (.getfield 57, 3) := by decide +kernel
theorem dX11_init_130 : decode cX11_init 130 = .ok (.aload_n 0, 1) := by decide +kernel
theorem dX11_init_131 : decode cX11_init 131 = .ok (.getfield 64, 3) := by decide +kernel
theorem dX11_init_134 : decode cX11_init 134 = .ok (.invokespecial 70, 3) := by decide +kernel
theorem dX11_init_137 : decode cX11_init 137 = .ok (.putfield 73, 3) := by decide +kernel
theorem dX11_init_140 : decode cX11_init 140 = .ok (.aload_n 0, 1) := by decide +kernel
theorem dX11_init_141 : decode cX11_init 141 = .ok (.new 77, 3) := by decide +kernel
theorem dX11_init_144 : decode cX11_init 144 = .ok (.dup, 1) := by decide +kernel
theorem dX11_init_145 : decode cX11_init 145 = .ok (.aload_n 0, 1) := by decide +kernel
theorem dX11_init_146 : decode cX11_init 146 = .ok (.getfield 10, 3) := by decide +kernel
theorem dX11_init_149 : decode cX11_init 149 = .ok (.aload_n 0, 1) := by decide +kernel
theorem dX11_init_150 : decode cX11_init 150 = .ok (.getfield 48, 3) := by decide +kernel
theorem dX11_init_153 : decode cX11_init 153 = .ok (.aload_n 0, 1) := by decide +kernel
theorem dX11_init_154 : decode cX11_init 154 = .ok (.getfield 57, 3) := by decide +kernel
theorem dX11_init_157 : decode cX11_init 157 = .ok (.aload_n 0, 1) := by decide +kernel
theorem dX11_init_158 : decode cX11_init 158 = .ok (.getfield 64, 3) := by decide +kernel
theorem dX11_init_161 : decode cX11_init 161 = .ok (.invokespecial 79, 3) := by decide +kernel
theorem dX11_init_164 : decode cX11_init 164 = .ok (.putfield 80, 3) := by decide +kernel
theorem dX11_init_167 : decode cX11_init 167 = .ok (.aload_n 0, 1) := by decide +kernel
theorem dX11_init_168 : decode cX11_init 168 = .ok (.new 84, 3) := by decide +kernel
theorem dX11_init_171 : decode cX11_init 171 = .ok (.dup, 1) := by decide +kernel
theorem dX11_init_172 : decode cX11_init 172 = .ok (.invokespecial 86, 3) := by decide +kernel
theorem dX11_init_175 : decode cX11_init 175 = .ok (.putfield 87, 3) := by decide +kernel
theorem dX11_init_178 : decode cX11_init 178 = .ok (.aload_n 0, 1) := by decide +kernel
theorem dX11_init_179 : decode cX11_init 179 = .ok (.new 91, 3) := by decide +kernel
theorem dX11_init_182 : decode cX11_init 182 = .ok (.dup, 1) := by decide +kernel
theorem dX11_init_183 : decode cX11_init 183 = .ok (.invokespecial 93, 3) := by decide +kernel
theorem dX11_init_186 : decode cX11_init 186 = .ok (.putfield 94, 3) := by decide +kernel
theorem dX11_init_189 : decode cX11_init 189 = .ok (.aload_n 0, 1) := by decide +kernel
theorem dX11_init_190 : decode cX11_init 190 = .ok (.new 91, 3) := by decide +kernel
theorem dX11_init_193 : decode cX11_init 193 = .ok (.dup, 1) := by decide +kernel
theorem dX11_init_194 : decode cX11_init 194 = .ok (.invokespecial 93, 3) := by decide +kernel
theorem dX11_init_197 : decode cX11_init 197 = .ok (.putfield 98, 3) := by decide +kernel
theorem dX11_init_200 : decode cX11_init 200 = .ok (.aload_n 0, 1) := by decide +kernel
theorem dX11_init_201 : decode cX11_init 201 = .ok (.new 91, 3) := by decide +kernel
theorem dX11_init_204 : decode cX11_init 204 = .ok (.dup, 1) := by decide +kernel
theorem dX11_init_205 : decode cX11_init 205 = .ok (.invokespecial 93, 3) := by decide +kernel
theorem dX11_init_208 : decode cX11_init 208 = .ok (.putfield 101, 3) := by decide +kernel
theorem dX11_init_211 : decode cX11_init 211 = .ok (.aload_n 0, 1) := by decide +kernel
theorem dX11_init_212 : decode cX11_init 212 = .ok (.iconst 0, 1) := by decide +kernel
theorem dX11_init_213 : decode cX11_init 213 = .ok (.putfield 104, 3) := by decide +kernel
theorem dX11_init_216 : decode cX11_init 216 = .ok (.aload_n 0, 1) := by decide +kernel
theorem dX11_init_217 : decode cX11_init 217 = .ok (.iconst (-1), 1) := by decide +kernel
theorem dX11_init_218 : decode cX11_init 218 = .ok (.putfield 107, 3) := by decide +kernel
theorem dX11_init_221 : decode cX11_init 221 = .ok (.aload_n 0, 1) := by decide +kernel
theorem dX11_init_222 : decode cX11_init 222 = .ok (.iconst (-1), 1) := by decide +kernel
theorem dX11_init_223 : decode cX11_init 223 = .ok (.putfield 110, 3) := by decide +kernel
theorem dX11_init_226 : decode cX11_init 226 = .ok (.aload_n 0, 1) := by decide +kernel
theorem dX11_init_227 : decode cX11_init 227 = .ok (.iconst 0, 1) := by decide +kernel
theorem dX11_init_228 : decode cX11_init 228 = .ok (.putfield 113, 3) := by decide +kernel
theorem dX11_init_231 : decode cX11_init 231 = .ok (.return_, 1) := by decide +kernel
theorem dX11_input_0 : decode cX11_input 0 = .ok (.aload_n 0, 1) := by decide +kernel
theorem dX11_input_1 : decode cX11_input 1 = .ok (.getfield 27, 3) := by decide +kernel
theorem dX11_input_4 : decode cX11_input 4 = .ok (.ifCond .lt 15, 3) := by decide +kernel
theorem dX11_input_7 : decode cX11_input 7 = .ok (.aload_n 0, 1) := by decide +kernel
theorem dX11_input_8 : decode cX11_input 8 = .ok (.getfield 27, 3) := by decide +kernel
theorem dX11_input_11 : decode cX11_input 11 = .ok (.aload_n 0, 1) := by decide +kernel
theorem dX11_input_12 : decode cX11_input 12 = .ok (.getfield 24, 3) := by decide +kernel
theorem dX11_input_15 : decode cX11_input 15 = .ok (.arraylength, 1) := by decide +kernel
theorem dX11_input_16 : decode cX11_input 16 = .ok (.if_icmp .lt 14, 3) := by decide +kernel
theorem dX11_input_30 : decode cX11_input 30 = .ok (.aload_n 0, 1) := by decide +kernel
theorem dX11_input_31 : decode cX11_input 31 = .ok (.getfield 24, 3) := by decide +kernel
theorem dX11_input_34 : decode cX11_input 34 = .ok (.aload_n 0, 1) := by decide +kernel
theorem dX11_input_35 : decode cX11_input 35 = .ok (.getfield 27, 3) := by decide +kernel
theorem dX11_input_38 : decode cX11_input 38 = .ok (.iload_n 1, 1) := by decide +kernel
theorem dX11_input_39 : decode cX11_input 39 = .ok (.iastore, 1) := by decide +kernel
theorem dX11_input_40 : decode cX11_input 40 = .ok (.aload_n 0, 1) := by decide +kernel
theorem dX11_input_41 : decode cX11_input 41 = .ok (.dup, 1) := by decide +kernel
theorem dX11_input_42 : decode cX11_input 42 = .ok (.getfield 27, 3) := by decide +kernel
theorem dX11_input_45 : decode cX11_input 45 = .ok (.iconst 1, 1) := by decide +kernel
theorem dX11_input_46 : decode cX11_input 46 = .ok (.iadd, 1) := by decide +kernel
theorem dX11_input_47 : decode cX11_input 47 = .ok (.putfield 27, 3) := by decide +kernel
theorem dX11_input_50 : decode cX11_input 50 = .ok (.aload_n 0, 1) := by decide +kernel
theorem dX11_input_51 : decode cX11_input 51 = .ok (.getfield 27, 3) := by decide +kernel
theorem dX11_input_54 : decode cX11_input 54 = .ok (.ireturn, 1) := by decide +kernel
theorem dX11_isAgreed_0 : decode cX11_isAgreed 0 = .ok (.aload_n 0, 1) := by decide +kernel
theorem dX11_isAgreed_1 : decode cX11_isAgreed 1 = .ok (.getfield 98, 3) := by decide +kernel
theorem dX11_isAgreed_4 : decode cX11_isAgreed 4 = .ok (.aload_n 0, 1) := by decide +kernel
theorem dX11_isAgreed_5 : decode cX11_isAgreed 5 = .ok (.getfield 10, 3) := by decide +kernel
theorem dX11_isAgreed_8 : decode cX11_isAgreed 8 = .ok (.aload_n 0, 1) := by decide +kernel
theorem dX11_isAgreed_9 : decode cX11_isAgreed 9 = .ok (.getfield 24, 3) := by decide +kernel
theorem dX11_isAgreed_12 : decode cX11_isAgreed 12 = .ok (.aload_n 0, 1) := by decide +kernel
theorem dX11_isAgreed_13 : decode cX11_isAgreed 13 = .ok (.getfield 27, 3) := by decide +kernel
theorem dX11_isAgreed_16 : decode cX11_isAgreed 16 = .ok (.iload_n 1, 1) := by decide +kernel
theorem dX11_isAgreed_17 : decode cX11_isAgreed 17 = .ok (.invokevirtual 279, 3) := by decide +kernel
theorem dX11_isAgreed_20 : decode cX11_isAgreed 20 = .ok (.istore_n 2, 1) := by decide +kernel
theorem dX11_isAgreed_21 : decode cX11_isAgreed 21 = .ok (.aload_n 0, 1) := by decide +kernel
theorem dX11_isAgreed_22 : decode cX11_isAgreed 22 = .ok (.getfield 101, 3) := by decide +kernel
theorem dX11_isAgreed_25 : decode cX11_isAgreed 25 = .ok (.aload_n 0, 1) := by decide +kernel
theorem dX11_isAgreed_26 : decode cX11_isAgreed 26 = .ok (.getfield 80, 3) := by decide +kernel
theorem dX11_isAgreed_29 : decode cX11_isAgreed 29 = .ok (.invokevirtual 270, 3) := by decide +kernel
theorem dX11_isAgreed_32 : decode cX11_isAgreed 32 = .ok (.aload_n 0, 1) := by decide +kernel
theorem dX11_isAgreed_33 : decode cX11_isAgreed 33 = .ok (.getfield 24, 3) := by decide +kernel
theorem dX11_isAgreed_36 : decode cX11_isAgreed 36 = .ok (.aload_n 0, 1) := by decide +kernel
theorem dX11_isAgreed_37 : decode cX11_isAgreed 37 = .ok (.getfield 27, 3) := by decide +kernel
theorem dX11_isAgreed_40 : decode cX11_isAgreed 40 = .ok (.iload_n 1, 1) := by decide +kernel
theorem dX11_isAgreed_41 : decode cX11_isAgreed 41 = .ok (.invokevirtual 279, 3) := by decide +kernel
theorem dX11_isAgreed_44 : decode cX11_isAgreed 44 = .ok (.istore_n 3, 1) := by decide +kernel
theorem dX11_isAgreed_45 : decode cX11_isAgreed 45 = .ok (.iload_n 2, 1) := by decide +kernel
theorem dX11_isAgreed_46 : decode cX11_isAgreed 46 = .ok (.bipush 115, 2) := by decide +kernel
theorem dX11_isAgreed_48 : decode cX11_isAgreed 48 = .ok (.if_icmp .eq 33, 3) := by decide +kernel
theorem dX11_isAgreed_51 : decode cX11_isAgreed 51 = .ok (.iload_n 3, 1) := by decide +kernel
theorem dX11_isAgreed_52 : decode cX11_isAgreed 52 = .ok (.bipush 115, 2) := by decide +kernel
theorem dX11_isAgreed_54 : decode cX11_isAgreed 54 = .ok (.if_icmp .eq 27, 3) := by decide +kernel
theorem dX11_isAgreed_57 : decode cX11_isAgreed 57 = .ok (.iload_n 2, 1) := by decide +kernel
theorem dX11_isAgreed_58 : decode cX11_isAgreed 58 = .ok (.iload_n 3, 1) := by decide +kernel
theorem dX11_isAgreed_59 : decode cX11_isAgreed 59 = .ok (.if_icmp .ne 20, 3) := by decide +kernel
theorem dX11_isAgreed_62 : decode cX11_isAgreed 62 = .ok (.aload_n 0, 1) := by decide +kernel
theorem dX11_isAgreed_63 : decode cX11_isAgreed 63 = .ok (.getfield 98, 3) := by decide +kernel
theorem dX11_isAgreed_66 : decode cX11_isAgreed 66 = .ok (.invokevirtual 283, 3) := by decide +kernel
theorem dX11_isAgreed_69 : decode cX11_isAgreed 69 = .ok (.aload_n 0, 1) := by decide +kernel
theorem dX11_isAgreed_70 : decode cX11_isAgreed 70 = .ok (.getfield 101, 3) := by decide +kernel
theorem dX11_isAgreed_73 : decode cX11_isAgreed 73 = .ok (.invokevirtual 283, 3) := by decide +kernel
theorem dX11_isAgreed_76 : decode cX11_isAgreed 76 = .ok (.if_icmp .eq 5, 3) := by decide +kernel
theorem dX11_isAgreed_81 : decode cX11_isAgreed 81 = .ok (.iconst 0, 1) := by decide +kernel
theorem dX11_isAgreed_82 : decode cX11_isAgreed 82 = .ok (.istore 4, 2) := by decide +kernel
theorem dX11_isAgreed_84 : decode cX11_isAgreed 84 = .ok (.iload 4, 2) := by decide +kernel
theorem dX11_isAgreed_86 : decode cX11_isAgreed 86 = .ok (.aload_n 0, 1) := by decide +kernel
theorem dX11_isAgreed_87 : decode cX11_isAgreed 87 = .ok (.getfield 98, 3) := by decide +kernel
theorem dX11_isAgreed_90 : decode cX11_isAgreed 90 = .ok (.invokevirtual 283, 3) := by decide +kernel
theorem dX11_isAgreed_93 : decode cX11_isAgreed 93 = .ok (.if_icmp .ge 44, 3) := by decide +kernel
theorem dX11_isAgreed_137 : decode cX11_isAgreed 137 = .ok (.iconst 1, 1) := by decide +kernel
theorem dX11_isAgreed_138 : decode cX11_isAgreed 138 = .ok (.ireturn, 1) := by decide +kernel
theorem dX11_isByte_0 : decode cX11_isByte 0 = .ok (.iload_n 0, 1) := by decide +kernel
theorem dX11_isByte_1 : decode cX11_isByte 1 = .ok (.ifCond .lt 14, 3) := by decide +kernel
theorem dX11_isByte_4 : decode cX11_isByte 4 = .ok (.iload_n 0, 1) := by decide +kernel
theorem dX11_isByte_5 : decode cX11_isByte 5 = .ok (.sipush 255, 3) := by decide +kernel
theorem dX11_isByte_8 : decode cX11_isByte 8 = .ok (.if_icmp .gt 7, 3) := by decide +kernel
theorem dX11_isByte_11 : decode cX11_isByte 11 = .ok (.iconst 1, 1) := by decide +kernel
theorem dX11_isByte_12 : decode cX11_isByte 12 = .ok (.goto 4, 3) := by decide +kernel
theorem dX11_isByte_15 : decode cX11_isByte 15 = .ok (.iconst 0, 1) := by decide +kernel
theorem dX11_isByte_16 : decode cX11_isByte 16 = .ok (.ireturn, 1) := by decide +kernel
theorem dX11_isHead_0 : decode cX11_isHead 0 = .ok (.aload_n 0, 1) := by decide +kernel
theorem dX11_isHead_1 : decode cX11_isHead 1 = .ok (.iload_n 1, 1) := by decide +kernel
theorem dX11_isHead_2 : decode cX11_isHead 2 = .ok (.iload_n 2, 1) := by decide +kernel
theorem dX11_isHead_3 : decode cX11_isHead 3 = .ok (.invokevirtual 203, 3) := by decide +kernel
theorem dX11_isIdle_0 : decode cX11_isIdle 0 = .ok (.aload_n 0, 1) := by decide +kernel
theorem dX11_isIdle_1 : decode cX11_isIdle 1 = .ok (.iload_n 1, 1) := by decide +kernel
theorem dX11_isIdle_2 : decode cX11_isIdle 2 = .ok (.iload_n 2, 1) := by decide +kernel
theorem dX11_isIdle_3 : decode cX11_isIdle 3 = .ok (.invokevirtual 244, 3) := by decide +kernel
theorem dX11_isInDoubt_0 : decode cX11_isInDoubt 0 = .ok (.aload_n 0, 1) := by decide +kernel
theorem dX11_isInDoubt_1 : decode cX11_isInDoubt 1 = .ok (.iload_n 1, 1) := by decide +kernel
theorem dX11_isInDoubt_2 : decode cX11_isInDoubt 2 = .ok (.invokevirtual 147, 3) := by decide +kernel
theorem dX11_isMeeting_0 : decode cX11_isMeeting 0 = .ok (.aload_n 0, 1) := by decide +kernel
theorem dX11_isMeeting_1 : decode cX11_isMeeting 1 = .ok (.iload_n 1, 1) := by decide +kernel
theorem dX11_isMeeting_2 : decode cX11_isMeeting 2 = .ok (.iload_n 2, 1) := by decide +kernel
theorem dX11_isMeeting_3 : decode cX11_isMeeting 3 = .ok (.invokevirtual 203, 3) := by decide +kernel
theorem dX11_isSound_0 : decode cX11_isSound 0 = .ok (.aload_n 0, 1) := by decide +kernel
theorem dX11_isSound_1 : decode cX11_isSound 1 = .ok (.invokevirtual 164, 3) := by decide +kernel
theorem dX11_isSound_4 : decode cX11_isSound 4 = .ok (.iconst 0, 1) := by decide +kernel
theorem dX11_isSound_5 : decode cX11_isSound 5 = .ok (.istore_n 1, 1) := by decide +kernel
theorem dX11_isSound_6 : decode cX11_isSound 6 = .ok (.iload_n 1, 1) := by decide +kernel
theorem dX11_isSound_7 : decode cX11_isSound 7 = .ok (.aload_n 0, 1) := by decide +kernel
theorem dX11_isSound_8 : decode cX11_isSound 8 = .ok (.getfield 39, 3) := by decide +kernel
theorem dX11_isSound_11 : decode cX11_isSound 11 = .ok (.invokevirtual 180, 3) := by decide +kernel
theorem dX11_isSound_14 : decode cX11_isSound 14 = .ok (.if_icmp .ge 36, 3) := by decide +kernel
theorem dX11_isSound_50 : decode cX11_isSound 50 = .ok (.aload_n 0, 1) := by decide +kernel
theorem dX11_isSound_51 : decode cX11_isSound 51 = .ok (.invokevirtual 261, 3) := by decide +kernel
theorem dX11_isSound_54 : decode cX11_isSound 54 = .ok (.aload_n 0, 1) := by decide +kernel
theorem dX11_isSound_55 : decode cX11_isSound 55 = .ok (.getfield 80, 3) := by decide +kernel
theorem dX11_isSound_58 : decode cX11_isSound 58 = .ok (.invokevirtual 267, 3) := by decide +kernel
theorem dX11_isSound_61 : decode cX11_isSound 61 = .ok (.sipush 240, 3) := by decide +kernel
theorem dX11_isSound_64 : decode cX11_isSound 64 = .ok (.if_icmp .gt 13, 3) := by decide +kernel
theorem dX11_isSound_67 : decode cX11_isSound 67 = .ok (.aload_n 0, 1) := by decide +kernel
theorem dX11_isSound_68 : decode cX11_isSound 68 = .ok (.sipush 300, 3) := by decide +kernel
theorem dX11_isSound_71 : decode cX11_isSound 71 = .ok (.invokevirtual 293, 3) := by decide +kernel
theorem dX11_isSound_74 : decode cX11_isSound 74 = .ok (.ifCond .eq 7, 3) := by decide +kernel
theorem dX11_isSound_77 : decode cX11_isSound 77 = .ok (.iconst 1, 1) := by decide +kernel
theorem dX11_isSound_78 : decode cX11_isSound 78 = .ok (.goto 4, 3) := by decide +kernel
theorem dX11_isSound_82 : decode cX11_isSound 82 = .ok (.ireturn, 1) := by decide +kernel
theorem dX11_keep_0 : decode cX11_keep 0 = .ok (.aload_n 0, 1) := by decide +kernel
theorem dX11_keep_1 : decode cX11_keep 1 = .ok (.invokevirtual 164, 3) := by decide +kernel
theorem dX11_keep_4 : decode cX11_keep 4 = .ok (.aload_n 0, 1) := by decide +kernel
theorem dX11_keep_5 : decode cX11_keep 5 = .ok (.getfield 87, 3) := by decide +kernel
theorem dX11_keep_8 : decode cX11_keep 8 = .ok (.invokevirtual 296, 3) := by decide +kernel
theorem dX11_keep_11 : decode cX11_keep 11 = .ok (.iconst 0, 1) := by decide +kernel
theorem dX11_keep_12 : decode cX11_keep 12 = .ok (.istore_n 1, 1) := by decide +kernel
theorem dX11_keep_13 : decode cX11_keep 13 = .ok (.iload_n 1, 1) := by decide +kernel
theorem dX11_keep_14 : decode cX11_keep 14 = .ok (.aload_n 0, 1) := by decide +kernel
theorem dX11_keep_15 : decode cX11_keep 15 = .ok (.getfield 39, 3) := by decide +kernel
theorem dX11_keep_18 : decode cX11_keep 18 = .ok (.invokevirtual 180, 3) := by decide +kernel
theorem dX11_keep_21 : decode cX11_keep 21 = .ok (.if_icmp .ge 35, 3) := by decide +kernel
theorem dX11_keep_56 : decode cX11_keep 56 = .ok (.aload_n 0, 1) := by decide +kernel
theorem dX11_keep_57 : decode cX11_keep 57 = .ok (.getfield 87, 3) := by decide +kernel
theorem dX11_keep_60 : decode cX11_keep 60 = .ok (.invokevirtual 307, 3) := by decide +kernel
theorem dX11_keep_63 : decode cX11_keep 63 = .ok (.ireturn, 1) := by decide +kernel
theorem dX11_kind_0 : decode cX11_kind 0 = .ok (.aload_n 0, 1) := by decide +kernel
theorem dX11_kind_1 : decode cX11_kind 1 = .ok (.iload_n 1, 1) := by decide +kernel
theorem dX11_kind_2 : decode cX11_kind 2 = .ok (.invokevirtual 147, 3) := by decide +kernel
theorem dX11_leaps_0 : decode cX11_leaps 0 = .ok (.aload_n 0, 1) := by decide +kernel
theorem dX11_leaps_1 : decode cX11_leaps 1 = .ok (.iload_n 1, 1) := by decide +kernel
theorem dX11_leaps_2 : decode cX11_leaps 2 = .ok (.invokevirtual 181, 3) := by decide +kernel
theorem dX11_length_0 : decode cX11_length 0 = .ok (.aload_n 0, 1) := by decide +kernel
theorem dX11_length_1 : decode cX11_length 1 = .ok (.iload_n 1, 1) := by decide +kernel
theorem dX11_length_2 : decode cX11_length 2 = .ok (.invokevirtual 147, 3) := by decide +kernel
theorem dX11_live_0 : decode cX11_live 0 = .ok (.aload_n 0, 1) := by decide +kernel
theorem dX11_live_1 : decode cX11_live 1 = .ok (.iload_n 1, 1) := by decide +kernel
theorem dX11_live_2 : decode cX11_live 2 = .ok (.iload_n 2, 1) := by decide +kernel
theorem dX11_live_3 : decode cX11_live 3 = .ok (.invokevirtual 244, 3) := by decide +kernel
theorem dX11_match_0 : decode cX11_match 0 = .ok (.aload_n 0, 1) := by decide +kernel
theorem dX11_match_1 : decode cX11_match 1 = .ok (.iload_n 1, 1) := by decide +kernel
theorem dX11_match_2 : decode cX11_match 2 = .ok (.invokevirtual 181, 3) := by decide +kernel
theorem dX11_mayReturn_0 : decode cX11_mayReturn 0 = .ok (.aload_n 0, 1) := by decide +kernel
theorem dX11_mayReturn_1 : decode cX11_mayReturn 1 = .ok (.iload_n 1, 1) := by decide +kernel
theorem dX11_mayReturn_2 : decode cX11_mayReturn 2 = .ok (.invokevirtual 181, 3) := by decide +kernel
theorem dX11_meanBlock_0 : decode cX11_meanBlock 0 = .ok (.aload_n 0, 1) := by decide +kernel
theorem dX11_meanBlock_1 : decode cX11_meanBlock 1 = .ok (.iload_n 1, 1) := by decide +kernel
theorem dX11_meanBlock_2 : decode cX11_meanBlock 2 = .ok (.invokevirtual 181, 3) := by decide +kernel
theorem dX11_nearest_0 : decode cX11_nearest 0 = .ok (.aload_n 0, 1) := by decide +kernel
theorem dX11_nearest_1 : decode cX11_nearest 1 = .ok (.iload_n 1, 1) := by decide +kernel
theorem dX11_nearest_2 : decode cX11_nearest 2 = .ok (.iload_n 2, 1) := by decide +kernel
theorem dX11_nearest_3 : decode cX11_nearest 3 = .ok (.invokevirtual 203, 3) := by decide +kernel
theorem dX11_next_0 : decode cX11_next 0 = .ok (.aload_n 0, 1) := by decide +kernel
theorem dX11_next_1 : decode cX11_next 1 = .ok (.iload_n 1, 1) := by decide +kernel
theorem dX11_next_2 : decode cX11_next 2 = .ok (.iload_n 2, 1) := by decide +kernel
theorem dX11_next_3 : decode cX11_next 3 = .ok (.invokevirtual 203, 3) := by decide +kernel
theorem dX11_nexts_0 : decode cX11_nexts 0 = .ok (.aload_n 0, 1) := by decide +kernel
theorem dX11_nexts_1 : decode cX11_nexts 1 = .ok (.iload_n 1, 1) := by decide +kernel
theorem dX11_nexts_2 : decode cX11_nexts 2 = .ok (.iload_n 2, 1) := by decide +kernel
theorem dX11_nexts_3 : decode cX11_nexts 3 = .ok (.invokevirtual 203, 3) := by decide +kernel
theorem dX11_order_0 : decode cX11_order 0 = .ok (.aload_n 0, 1) := by decide +kernel
theorem dX11_order_1 : decode cX11_order 1 = .ok (.iload_n 1, 1) := by decide +kernel
theorem dX11_order_2 : decode cX11_order 2 = .ok (.iload_n 2, 1) := by decide +kernel
theorem dX11_order_3 : decode cX11_order 3 = .ok (.invokevirtual 203, 3) := by decide +kernel
theorem dX11_output_0 : decode cX11_output 0 = .ok (.iload_n 1, 1) := by decide +kernel
theorem dX11_output_1 : decode cX11_output 1 = .ok (.ifCond .lt 14, 3) := by decide +kernel
theorem dX11_output_4 : decode cX11_output 4 = .ok (.iload_n 1, 1) := by decide +kernel
theorem dX11_output_5 : decode cX11_output 5 = .ok (.aload_n 0, 1) := by decide +kernel
theorem dX11_output_6 : decode cX11_output 6 = .ok (.getfield 94, 3) := by decide +kernel
theorem dX11_output_9 : decode cX11_output 9 = .ok (.invokevirtual 283, 3) := by decide +kernel
theorem dX11_output_12 : decode cX11_output 12 = .ok (.if_icmp .lt 14, 3) := by decide +kernel
theorem dX11_output_15 : decode cX11_output 15 = .ok (.new 191, 3) := by decide +kernel
theorem dX11_output_18 : decode cX11_output 18 = .ok (.dup, 1) := by decide +kernel
theorem dX11_output_19 : decode cX11_output 19 = .ok (.ldc_w 286, 3) := by decide +kernel
theorem dX11_output_22 : decode cX11_output 22 = .ok (.invokespecial 195, 3) := by decide +kernel
theorem dX11_output_25 : decode cX11_output 25 = .ok (.athrow, 1) := by decide +kernel
theorem dX11_outputs_0 : decode cX11_outputs 0 = .ok (.aload_n 0, 1) := by decide +kernel
theorem dX11_outputs_1 : decode cX11_outputs 1 = .ok (.getfield 94, 3) := by decide +kernel
theorem dX11_outputs_4 : decode cX11_outputs 4 = .ok (.invokevirtual 283, 3) := by decide +kernel
theorem dX11_outputs_7 : decode cX11_outputs 7 = .ok (.ireturn, 1) := by decide +kernel
theorem dX11_read_0 : decode cX11_read 0 = .ok (.aload_n 0, 1) := by decide +kernel
theorem dX11_read_1 : decode cX11_read 1 = .ok (.getfield 104, 3) := by decide +kernel
theorem dX11_read_4 : decode cX11_read 4 = .ok (.ifCond .ne 37, 3) := by decide +kernel
theorem dX11_read_7 : decode cX11_read 7 = .ok (.aload_n 0, 1) := by decide +kernel
theorem dX11_read_8 : decode cX11_read 8 = .ok (.getfield 10, 3) := by decide +kernel
theorem dX11_read_11 : decode cX11_read 11 = .ok (.invokevirtual 349, 3) := by decide +kernel
theorem dX11_read_14 : decode cX11_read 14 = .ok (.aload_n 0, 1) := by decide +kernel
theorem dX11_read_15 : decode cX11_read 15 = .ok (.getfield 39, 3) := by decide +kernel
theorem dX11_read_18 : decode cX11_read 18 = .ok (.aload_n 0, 1) := by decide +kernel
theorem dX11_read_19 : decode cX11_read 19 = .ok (.getfield 16, 3) := by decide +kernel
theorem dX11_read_22 : decode cX11_read 22 = .ok (.aload_n 0, 1) := by decide +kernel
theorem dX11_read_23 : decode cX11_read 23 = .ok (.getfield 20, 3) := by decide +kernel
theorem dX11_read_26 : decode cX11_read 26 = .ok (.invokevirtual 352, 3) := by decide +kernel
theorem dX11_read_29 : decode cX11_read 29 = .ok (.aload_n 0, 1) := by decide +kernel
theorem dX11_read_30 : decode cX11_read 30 = .ok (.getfield 64, 3) := by decide +kernel
theorem dX11_read_33 : decode cX11_read 33 = .ok (.invokevirtual 356, 3) := by decide +kernel
theorem dX11_read_36 : decode cX11_read 36 = .ok (.aload_n 0, 1) := by decide +kernel
theorem dX11_read_37 : decode cX11_read 37 = .ok (.iconst 1, 1) := by decide +kernel
theorem dX11_read_38 : decode cX11_read 38 = .ok (.putfield 104, 3) := by decide +kernel
theorem dX11_read_41 : decode cX11_read 41 = .ok (.return_, 1) := by decide +kernel
theorem dX11_run_0 : decode cX11_run 0 = .ok (.aload_n 0, 1) := by decide +kernel
theorem dX11_run_1 : decode cX11_run 1 = .ok (.iload_n 2, 1) := by decide +kernel
theorem dX11_run_2 : decode cX11_run 2 = .ok (.invokevirtual 276, 3) := by decide +kernel
theorem dX11_run_5 : decode cX11_run 5 = .ok (.aload_n 0, 1) := by decide +kernel
theorem dX11_run_6 : decode cX11_run 6 = .ok (.invokevirtual 164, 3) := by decide +kernel
theorem dX11_run_9 : decode cX11_run 9 = .ok (.iload_n 1, 1) := by decide +kernel
theorem dX11_run_10 : decode cX11_run 10 = .ok (.ifCond .ne 24, 3) := by decide +kernel
theorem dX11_run_13 : decode cX11_run 13 = .ok (.aload_n 0, 1) := by decide +kernel
theorem dX11_run_14 : decode cX11_run 14 = .ok (.getfield 94, 3) := by decide +kernel
theorem dX11_run_17 : decode cX11_run 17 = .ok (.aload_n 0, 1) := by decide +kernel
theorem dX11_run_18 : decode cX11_run 18 = .ok (.getfield 10, 3) := by decide +kernel
theorem dX11_run_21 : decode cX11_run 21 = .ok (.aload_n 0, 1) := by decide +kernel
theorem dX11_run_22 : decode cX11_run 22 = .ok (.getfield 24, 3) := by decide +kernel
theorem dX11_run_25 : decode cX11_run 25 = .ok (.aload_n 0, 1) := by decide +kernel
theorem dX11_run_26 : decode cX11_run 26 = .ok (.getfield 27, 3) := by decide +kernel
theorem dX11_run_29 : decode cX11_run 29 = .ok (.iload_n 2, 1) := by decide +kernel
theorem dX11_run_30 : decode cX11_run 30 = .ok (.invokevirtual 279, 3) := by decide +kernel
theorem dX11_run_33 : decode cX11_run 33 = .ok (.ireturn, 1) := by decide +kernel
theorem dX11_run_34 : decode cX11_run 34 = .ok (.aload_n 0, 1) := by decide +kernel
theorem dX11_run_35 : decode cX11_run 35 = .ok (.invokevirtual 261, 3) := by decide +kernel
theorem dX11_run_38 : decode cX11_run 38 = .ok (.aload_n 0, 1) := by decide +kernel
theorem dX11_run_39 : decode cX11_run 39 = .ok (.invokevirtual 264, 3) := by decide +kernel
theorem dX11_run_42 : decode cX11_run 42 = .ok (.aload_n 0, 1) := by decide +kernel
theorem dX11_run_43 : decode cX11_run 43 = .ok (.getfield 94, 3) := by decide +kernel
theorem dX11_run_46 : decode cX11_run 46 = .ok (.aload_n 0, 1) := by decide +kernel
theorem dX11_run_47 : decode cX11_run 47 = .ok (.getfield 80, 3) := by decide +kernel
theorem dX11_run_50 : decode cX11_run 50 = .ok (.invokevirtual 270, 3) := by decide +kernel
theorem dX11_run_53 : decode cX11_run 53 = .ok (.aload_n 0, 1) := by decide +kernel
theorem dX11_run_54 : decode cX11_run 54 = .ok (.getfield 24, 3) := by decide +kernel
theorem dX11_run_57 : decode cX11_run 57 = .ok (.aload_n 0, 1) := by decide +kernel
theorem dX11_run_58 : decode cX11_run 58 = .ok (.getfield 27, 3) := by decide +kernel
theorem dX11_run_61 : decode cX11_run 61 = .ok (.iload_n 2, 1) := by decide +kernel
theorem dX11_run_62 : decode cX11_run 62 = .ok (.invokevirtual 279, 3) := by decide +kernel
theorem dX11_run_65 : decode cX11_run 65 = .ok (.ireturn, 1) := by decide +kernel
theorem dX11_set_0 : decode cX11_set 0 = .ok (.aload_n 0, 1) := by decide +kernel
theorem dX11_set_1 : decode cX11_set 1 = .ok (.iload_n 1, 1) := by decide +kernel
theorem dX11_set_2 : decode cX11_set 2 = .ok (.invokevirtual 147, 3) := by decide +kernel
theorem dX11_sharers_0 : decode cX11_sharers 0 = .ok (.aload_n 0, 1) := by decide +kernel
theorem dX11_sharers_1 : decode cX11_sharers 1 = .ok (.iload_n 1, 1) := by decide +kernel
theorem dX11_sharers_2 : decode cX11_sharers 2 = .ok (.invokevirtual 147, 3) := by decide +kernel
theorem dX11_sign_0 : decode cX11_sign 0 = .ok (.aload_n 0, 1) := by decide +kernel
theorem dX11_sign_1 : decode cX11_sign 1 = .ok (.iload_n 1, 1) := by decide +kernel
theorem dX11_sign_2 : decode cX11_sign 2 = .ok (.invokevirtual 181, 3) := by decide +kernel
theorem dX11_size_0 : decode cX11_size 0 = .ok (.aload_n 0, 1) := by decide +kernel
theorem dX11_size_1 : decode cX11_size 1 = .ok (.iload_n 1, 1) := by decide +kernel
theorem dX11_size_2 : decode cX11_size 2 = .ok (.iload_n 2, 1) := by decide +kernel
theorem dX11_size_3 : decode cX11_size 3 = .ok (.invokevirtual 203, 3) := by decide +kernel
theorem dX11_source_0 : decode cX11_source 0 = .ok (.aload_n 0, 1) := by decide +kernel
theorem dX11_source_1 : decode cX11_source 1 = .ok (.iload_n 1, 1) := by decide +kernel
theorem dX11_source_2 : decode cX11_source 2 = .ok (.invokevirtual 181, 3) := by decide +kernel
theorem dX11_steps_0 : decode cX11_steps 0 = .ok (.aload_n 0, 1) := by decide +kernel
theorem dX11_steps_1 : decode cX11_steps 1 = .ok (.getfield 94, 3) := by decide +kernel
theorem dX11_steps_4 : decode cX11_steps 4 = .ok (.invokevirtual 291, 3) := by decide +kernel
theorem dX11_steps_7 : decode cX11_steps 7 = .ok (.ireturn, 1) := by decide +kernel
theorem dX11_tidy_0 : decode cX11_tidy 0 = .ok (.aload_n 0, 1) := by decide +kernel
theorem dX11_tidy_1 : decode cX11_tidy 1 = .ok (.getfield 30, 3) := by decide +kernel
theorem dX11_tidy_4 : decode cX11_tidy 4 = .ok (.istore_n 2, 1) := by decide +kernel
theorem dX11_tidy_5 : decode cX11_tidy 5 = .ok (.aload_n 0, 1) := by decide +kernel
theorem dX11_tidy_6 : decode cX11_tidy 6 = .ok (.iload_n 1, 1) := by decide +kernel
theorem dX11_tidy_7 : decode cX11_tidy 7 = .ok (.putfield 30, 3) := by decide +kernel
theorem dX11_tidy_10 : decode cX11_tidy 10 = .ok (.iload_n 2, 1) := by decide +kernel
theorem dX11_tidy_11 : decode cX11_tidy 11 = .ok (.iload_n 1, 1) := by decide +kernel
theorem dX11_tidy_12 : decode cX11_tidy 12 = .ok (.if_icmp .eq 13, 3) := by decide +kernel
theorem dX11_tidy_15 : decode cX11_tidy 15 = .ok (.aload_n 0, 1) := by decide +kernel
theorem dX11_tidy_16 : decode cX11_tidy 16 = .ok (.iconst (-1), 1) := by decide +kernel
theorem dX11_tidy_17 : decode cX11_tidy 17 = .ok (.putfield 110, 3) := by decide +kernel
theorem dX11_tidy_20 : decode cX11_tidy 20 = .ok (.aload_n 0, 1) := by decide +kernel
theorem dX11_tidy_21 : decode cX11_tidy 21 = .ok (.iconst 0, 1) := by decide +kernel
theorem dX11_tidy_22 : decode cX11_tidy 22 = .ok (.putfield 113, 3) := by decide +kernel
theorem dX11_tidy_25 : decode cX11_tidy 25 = .ok (.iload_n 2, 1) := by decide +kernel
theorem dX11_tidy_26 : decode cX11_tidy 26 = .ok (.ireturn, 1) := by decide +kernel
theorem dX11_type_0 : decode cX11_type 0 = .ok (.iload_n 1, 1) := by decide +kernel
theorem dX11_type_1 : decode cX11_type 1 = .ok (.invokestatic 116, 3) := by decide +kernel
theorem dX11_type_4 : decode cX11_type 4 = .ok (.ifCond .ne 13, 3) := by decide +kernel
theorem dX11_type_7 : decode cX11_type 7 = .ok (.new 120, 3) := by decide +kernel
theorem dX11_type_10 : decode cX11_type 10 = .ok (.dup, 1) := by decide +kernel
theorem dX11_type_11 : decode cX11_type 11 = .ok (.ldc 122, 2) := by decide +kernel
theorem dX11_type_13 : decode cX11_type 13 = .ok (.invokespecial 124, 3) := by decide +kernel
theorem dX11_type_16 : decode cX11_type 16 = .ok (.athrow, 1) := by decide +kernel
theorem dX11_type_17 : decode cX11_type 17 = .ok (.aload_n 0, 1) := by decide +kernel
theorem dX11_type_18 : decode cX11_type 18 = .ok (.getfield 10, 3) := by decide +kernel
theorem dX11_type_21 : decode cX11_type 21 = .ok (.invokevirtual 127, 3) := by decide +kernel
theorem dX11_type_24 : decode cX11_type 24 = .ok (.bipush 120, 2) := by decide +kernel
theorem dX11_type_26 : decode cX11_type 26 = .ok (.if_icmp .lt 13, 3) := by decide +kernel
theorem dX11_type_39 : decode cX11_type 39 = .ok (.aload_n 0, 1) := by decide +kernel
theorem dX11_type_40 : decode cX11_type 40 = .ok (.getfield 10, 3) := by decide +kernel
theorem dX11_type_43 : decode cX11_type 43 = .ok (.aload_n 0, 1) := by decide +kernel
theorem dX11_type_44 : decode cX11_type 44 = .ok (.getfield 10, 3) := by decide +kernel
theorem dX11_type_47 : decode cX11_type 47 = .ok (.invokevirtual 127, 3) := by decide +kernel
theorem dX11_type_50 : decode cX11_type 50 = .ok (.iload_n 1, 1) := by decide +kernel
theorem dX11_type_51 : decode cX11_type 51 = .ok (.invokevirtual 136, 3) := by decide +kernel
theorem dX11_type_54 : decode cX11_type 54 = .ok (.aload_n 0, 1) := by decide +kernel
theorem dX11_type_55 : decode cX11_type 55 = .ok (.getfield 10, 3) := by decide +kernel
theorem dX11_type_58 : decode cX11_type 58 = .ok (.aload_n 0, 1) := by decide +kernel
theorem dX11_type_59 : decode cX11_type 59 = .ok (.getfield 10, 3) := by decide +kernel
theorem dX11_type_62 : decode cX11_type 62 = .ok (.invokevirtual 127, 3) := by decide +kernel
theorem dX11_type_65 : decode cX11_type 65 = .ok (.iconst 1, 1) := by decide +kernel
theorem dX11_type_66 : decode cX11_type 66 = .ok (.iadd, 1) := by decide +kernel
theorem dX11_type_67 : decode cX11_type 67 = .ok (.invokevirtual 140, 3) := by decide +kernel
theorem dX11_type_70 : decode cX11_type 70 = .ok (.aload_n 0, 1) := by decide +kernel
theorem dX11_type_71 : decode cX11_type 71 = .ok (.invokevirtual 144, 3) := by decide +kernel
theorem dX11_type_74 : decode cX11_type 74 = .ok (.aload_n 0, 1) := by decide +kernel
theorem dX11_type_75 : decode cX11_type 75 = .ok (.getfield 10, 3) := by decide +kernel
theorem dX11_type_78 : decode cX11_type 78 = .ok (.invokevirtual 127, 3) := by decide +kernel
theorem dX11_type_81 : decode cX11_type 81 = .ok (.ireturn, 1) := by decide +kernel
theorem dX11_wipe_0 : decode cX11_wipe 0 = .ok (.aload_n 0, 1) := by decide +kernel
theorem dX11_wipe_1 : decode cX11_wipe 1 = .ok (.getfield 10, 3) := by decide +kernel
theorem dX11_wipe_4 : decode cX11_wipe 4 = .ok (.invokevirtual 127, 3) := by decide +kernel
theorem dX11_wipe_7 : decode cX11_wipe 7 = .ok (.istore_n 1, 1) := by decide +kernel
theorem dX11_wipe_8 : decode cX11_wipe 8 = .ok (.aload_n 0, 1) := by decide +kernel
theorem dX11_wipe_9 : decode cX11_wipe 9 = .ok (.getfield 10, 3) := by decide +kernel
theorem dX11_wipe_12 : decode cX11_wipe 12 = .ok (.iconst 0, 1) := by decide +kernel
theorem dX11_wipe_13 : decode cX11_wipe 13 = .ok (.invokevirtual 140, 3) := by decide +kernel
theorem dX11_wipe_16 : decode cX11_wipe 16 = .ok (.aload_n 0, 1) := by decide +kernel
theorem dX11_wipe_17 : decode cX11_wipe 17 = .ok (.iconst 0, 1) := by decide +kernel
theorem dX11_wipe_18 : decode cX11_wipe 18 = .ok (.putfield 20, 3) := by decide +kernel
theorem dX11_wipe_21 : decode cX11_wipe 21 = .ok (.aload_n 0, 1) := by decide +kernel
theorem dX11_wipe_22 : decode cX11_wipe 22 = .ok (.invokevirtual 144, 3) := by decide +kernel
theorem dX11_wipe_25 : decode cX11_wipe 25 = .ok (.iload_n 1, 1) := by decide +kernel
theorem dX11_wipe_26 : decode cX11_wipe 26 = .ok (.ireturn, 1) := by decide +kernel
theorem dX13_init_0 : decode cX13_init 0 = .ok (.aload_n 0, 1) := by decide +kernel
theorem dX13_init_1 : decode cX13_init 1 = .ok (.invokespecial 3, 3) := by decide +kernel
theorem dX13_init_4 : decode cX13_init 4 = .ok (.aload_n 0, 1) := by decide +kernel
theorem dX13_init_5 : decode cX13_init 5 = .ok (.new 9, 3) := by decide +kernel
theorem dX13_init_8 : decode cX13_init 8 = .ok (.dup, 1) := by decide +kernel
theorem dX13_init_9 : decode cX13_init 9 = .ok (.invokespecial 11, 3) := by decide +kernel
theorem dX13_init_12 : decode cX13_init 12 = .ok (.putfield 12, 3) := by decide +kernel
theorem dX13_init_15 : decode cX13_init 15 = .ok (.aload_n 0, 1) := by decide +kernel
theorem dX13_init_16 : decode cX13_init 16 = .ok (.new 9, 3) := by decide +kernel
theorem dX13_init_19 : decode cX13_init 19 = .ok (.dup, 1) := by decide +kernel
theorem dX13_init_20 : decode cX13_init 20 = .ok (.invokespecial 11, 3) := by decide +kernel
theorem dX13_init_23 : decode cX13_init 23 = .ok (.putfield 18, 3) := by decide +kernel
theorem dX13_init_26 : decode cX13_init 26 = .ok (.aload_n 0, 1) := by decide +kernel
theorem dX13_init_27 : decode cX13_init 27 = .ok (.aload_n 1, 1) := by decide +kernel
theorem dX13_init_28 : decode cX13_init 28 = .ok (.putfield 21, 3) := by decide +kernel
theorem dX13_init_31 : decode cX13_init 31 = .ok (.aload_n 0, 1) := by decide +kernel
theorem dX13_init_32 : decode cX13_init 32 = .ok (.aload_n 1, 1) := by decide +kernel
theorem dX13_init_33 : decode cX13_init 33 = .ok (.arraylength, 1) := by decide +kernel
theorem dX13_init_34 : decode cX13_init 34 = .ok (.newarray .boolean, 2) := by decide +kernel
theorem dX13_init_36 : decode cX13_init 36 = .ok (.putfield 25, 3) := by decide +kernel
theorem dX13_init_39 : decode cX13_init 39 = .ok (.aload_n 0, 1) := by decide +kernel
theorem dX13_init_40 : decode cX13_init 40 = .ok (.getfield 12, 3) := by decide +kernel
theorem dX13_init_43 : decode cX13_init 43 = .ok (.iconst 0, 1) := by decide +kernel
theorem dX13_init_44 : decode cX13_init 44 = .ok (.invokestatic 29, 3) := by decide +kernel
theorem dX13_init_47 : decode cX13_init 47 = .ok (.invokevirtual 35, 3) := by decide +kernel
theorem dX13_init_50 : decode cX13_init 50 = .ok (.pop, 1) := by decide +kernel
theorem dX13_init_51 : decode cX13_init 51 = .ok (.aload_n 0, 1) := by decide +kernel
theorem dX13_init_52 : decode cX13_init 52 = .ok (.getfield 12, 3) := by decide +kernel
theorem dX13_init_55 : decode cX13_init 55 = .ok (.aload_n 2, 1) := by decide +kernel
theorem dX13_init_56 : decode cX13_init 56 = .ok (.invokevirtual 39, 3) := by decide +kernel
theorem dX13_init_59 : decode cX13_init 59 = .ok (.pop, 1) := by decide +kernel
theorem dX13_init_60 : decode cX13_init 60 = .ok (.aload_n 1, 1) := by decide +kernel
theorem dX13_init_61 : decode cX13_init 61 = .ok (.arraylength, 1) := by decide +kernel
theorem dX13_init_62 : decode cX13_init 62 = .ok (.newarray .boolean, 2) := by decide +kernel
theorem dX13_init_64 : decode cX13_init 64 = .ok (.astore_n 3, 1) := by decide +kernel
theorem dX13_init_65 : decode cX13_init 65 = .ok (.iconst 1, 1) := by decide +kernel
theorem dX13_init_66 : decode cX13_init 66 = .ok (.istore 4, 2) := by decide +kernel
theorem dX13_init_68 : decode cX13_init 68 = .ok (.iload 4, 2) := by decide +kernel
theorem dX13_init_70 : decode cX13_init 70 = .ok (.ifCond .eq 69, 3) := by decide +kernel
theorem dX13_init_73 : decode cX13_init 73 = .ok (.iconst 0, 1) := by decide +kernel
theorem dX13_init_74 : decode cX13_init 74 = .ok (.istore 4, 2) := by decide +kernel
theorem dX13_init_76 : decode cX13_init 76 = .ok (.aload_n 0, 1) := by decide +kernel
theorem dX13_init_77 : decode cX13_init 77 = .ok (.aload_n 3, 1) := by decide +kernel
theorem dX13_init_78 : decode cX13_init 78 = .ok (.invokevirtual 43, 3) := by decide +kernel
theorem dX13_init_81 : decode cX13_init 81 = .ok (.astore 5, 2) := by decide +kernel
theorem dX13_init_83 : decode cX13_init 83 = .ok (.iconst 0, 1) := by decide +kernel
theorem dX13_init_84 : decode cX13_init 84 = .ok (.istore 6, 2) := by decide +kernel
theorem dX13_init_86 : decode cX13_init 86 = .ok (.iload 6, 2) := by decide +kernel
theorem dX13_init_88 : decode cX13_init 88 = .ok (.aload_n 1, 1) := by decide +kernel
theorem dX13_init_89 : decode cX13_init 89 = .ok (.arraylength, 1) := by decide +kernel
theorem dX13_init_90 : decode cX13_init 90 = .ok (.if_icmp .ge 46, 3) := by decide +kernel
theorem dX13_init_136 : decode cX13_init 136 = .ok (.goto (-68), 3) := by decide +kernel
theorem dX13_init_139 : decode cX13_init 139 = .ok (.aload_n 0, 1) := by decide +kernel
theorem dX13_init_140 : decode cX13_init 140 = .ok (.aload_n 3, 1) := by decide +kernel
theorem dX13_init_141 : decode cX13_init 141 = .ok (.invokevirtual 43, 3) := by decide +kernel
theorem dX13_init_144 : decode cX13_init 144 = .ok (.astore 5, 2) := by decide +kernel
theorem dX13_init_146 : decode cX13_init 146 = .ok (.iconst 0, 1) := by decide +kernel
theorem dX13_init_147 : decode cX13_init 147 = .ok (.istore 6, 2) := by decide +kernel
theorem dX13_init_149 : decode cX13_init 149 = .ok (.iload 6, 2) := by decide +kernel
theorem dX13_init_151 : decode cX13_init 151 = .ok (.aload_n 1, 1) := by decide +kernel
theorem dX13_init_152 : decode cX13_init 152 = .ok (.arraylength, 1) := by decide +kernel
theorem dX13_init_153 : decode cX13_init 153 = .ok (.if_icmp .ge 36, 3) := by decide +kernel
theorem dX13_init_189 : decode cX13_init 189 = .ok (.return_, 1) := by decide +kernel
theorem dX13_numberOf_0 : decode cX13_numberOf 0 = .ok (.iconst 0, 1) := by decide +kernel
theorem dX13_numberOf_1 : decode cX13_numberOf 1 = .ok (.istore_n 2, 1) := by decide +kernel
theorem dX13_numberOf_2 : decode cX13_numberOf 2 = .ok (.iload_n 2, 1) := by decide +kernel
theorem dX13_numberOf_3 : decode cX13_numberOf 3 = .ok (.aload_n 0, 1) := by decide +kernel
theorem dX13_numberOf_4 : decode cX13_numberOf 4 = .ok (.getfield 18, 3) := by decide +kernel
theorem dX13_numberOf_7 : decode cX13_numberOf 7 = .ok (.invokevirtual 85, 3) := by decide +kernel
theorem dX13_numberOf_10 : decode cX13_numberOf 10 = .ok (.if_icmp .ge 29, 3) := by decide +kernel
theorem dX13_numberOf_39 : decode cX13_numberOf 39 = .ok (.iconst (-1), 1) := by decide +kernel
theorem dX13_numberOf_40 : decode cX13_numberOf 40 = .ok (.ireturn, 1) := by decide +kernel
theorem dX13_walked_0 : decode cX13_walked 0 = .ok (.aload_n 0, 1) := by decide +kernel
theorem dX13_walked_1 : decode cX13_walked 1 = .ok (.getfield 21, 3) := by decide +kernel
theorem dX13_walked_4 : decode cX13_walked 4 = .ok (.arraylength, 1) := by decide +kernel
theorem dX13_walked_5 : decode cX13_walked 5 = .ok (.newarray .boolean, 2) := by decide +kernel
theorem dX13_walked_7 : decode cX13_walked 7 = .ok (.astore_n 2, 1) := by decide +kernel
theorem dX13_walked_8 : decode cX13_walked 8 = .ok (.new 9, 3) := by decide +kernel
theorem dX13_walked_11 : decode cX13_walked 11 = .ok (.dup, 1) := by decide +kernel
theorem dX13_walked_12 : decode cX13_walked 12 = .ok (.invokespecial 11, 3) := by decide +kernel
theorem dX13_walked_15 : decode cX13_walked 15 = .ok (.astore_n 3, 1) := by decide +kernel
theorem dX13_walked_16 : decode cX13_walked 16 = .ok (.iconst 0, 1) := by decide +kernel
theorem dX13_walked_17 : decode cX13_walked 17 = .ok (.istore 4, 2) := by decide +kernel
theorem dX13_walked_19 : decode cX13_walked 19 = .ok (.iload 4, 2) := by decide +kernel
theorem dX13_walked_21 : decode cX13_walked 21 = .ok (.aload_n 0, 1) := by decide +kernel
theorem dX13_walked_22 : decode cX13_walked 22 = .ok (.getfield 21, 3) := by decide +kernel
theorem dX13_walked_25 : decode cX13_walked 25 = .ok (.arraylength, 1) := by decide +kernel
theorem dX13_walked_26 : decode cX13_walked 26 = .ok (.if_icmp .ge 17, 3) := by decide +kernel
theorem dX13_walked_43 : decode cX13_walked 43 = .ok (.aload_n 0, 1) := by decide +kernel
theorem dX13_walked_44 : decode cX13_walked 44 = .ok (.getfield 12, 3) := by decide +kernel
theorem dX13_walked_47 : decode cX13_walked 47 = .ok (.invokevirtual 60, 3) := by decide +kernel
theorem dX13_walked_50 : decode cX13_walked 50 = .ok (.astore 4, 2) := by decide +kernel
theorem dX13_walked_52 : decode cX13_walked 52 = .ok (.aload 4, 2) := by decide +kernel
theorem dX13_walked_54 : decode cX13_walked 54 = .ok (.invokeinterface 64 1, 5) := by decide +kernel
theorem dX13_walked_59 : decode cX13_walked 59 = .ok (.ifCond .eq 48, 3) := by decide +kernel
theorem dX13_walked_62 : decode cX13_walked 62 = .ok (.aload 4, 2) := by decide +kernel
theorem dX13_walked_64 : decode cX13_walked 64 = .ok (.invokeinterface 70 1, 5) := by decide +kernel
theorem dX13_walked_69 : decode cX13_walked 69 = .ok (.checkcast 30, 3) := by decide +kernel
theorem dX13_walked_72 : decode cX13_walked 72 = .ok (.invokevirtual 74, 3) := by decide +kernel
theorem dX13_walked_75 : decode cX13_walked 75 = .ok (.istore 5, 2) := by decide +kernel
theorem dX13_walked_77 : decode cX13_walked 77 = .ok (.aload_n 0, 1) := by decide +kernel
theorem dX13_walked_78 : decode cX13_walked 78 = .ok (.getfield 21, 3) := by decide +kernel
theorem dX13_walked_81 : decode cX13_walked 81 = .ok (.iload 5, 2) := by decide +kernel
theorem dX13_walked_83 : decode cX13_walked 83 = .ok (.invokestatic 78, 3) := by decide +kernel
theorem dX13_walked_86 : decode cX13_walked 86 = .ok (.ifCond .eq 18, 3) := by decide +kernel
theorem dX13_walked_104 : decode cX13_walked 104 = .ok (.goto (-52), 3) := by decide +kernel
theorem dX13_walked_107 : decode cX13_walked 107 = .ok (.aload_n 3, 1) := by decide +kernel
theorem dX13_walked_108 : decode cX13_walked 108 = .ok (.invokevirtual 82, 3) := by decide +kernel
theorem dX13_walked_111 : decode cX13_walked 111 = .ok (.ifCond .ne 177, 3) := by decide +kernel
theorem dX13_walked_288 : decode cX13_walked 288 = .ok (.aload_n 2, 1) := by decide +kernel
theorem dX13_walked_289 : decode cX13_walked 289 = .ok (.areturn, 1) := by decide +kernel
theorem dX14_init_0 : decode cX14_init 0 = .ok (.aload_n 0, 1) := by decide +kernel
theorem dX14_init_1 : decode cX14_init 1 = .ok (.invokespecial 3, 3) := by decide +kernel
theorem dX14_init_4 : decode cX14_init 4 = .ok (.aload_n 0, 1) := by decide +kernel
theorem dX14_init_5 : decode cX14_init 5 = .ok (.new 9, 3) := by decide +kernel
theorem dX14_init_8 : decode cX14_init 8 = .ok (.dup, 1) := by decide +kernel
theorem dX14_init_9 : decode cX14_init 9 = .ok (.invokespecial 11, 3) := by decide +kernel
theorem dX14_init_12 : decode cX14_init 12 = .ok (.putfield 12, 3) := by decide +kernel
theorem dX14_init_15 : decode cX14_init 15 = .ok (.iconst 4, 1) := by decide +kernel
theorem dX14_init_16 : decode cX14_init 16 = .ok (.newarray .int, 2) := by decide +kernel
theorem dX14_init_18 : decode cX14_init 18 = .ok (.astore 4, 2) := by decide +kernel
theorem dX14_init_20 : decode cX14_init 20 = .ok (.bipush 8, 2) := by decide +kernel
theorem dX14_init_22 : decode cX14_init 22 = .ok (.newarray .int, 2) := by decide +kernel
theorem dX14_init_24 : decode cX14_init 24 = .ok (.astore 5, 2) := by decide +kernel
theorem dX14_init_26 : decode cX14_init 26 = .ok (.new 9, 3) := by decide +kernel
theorem dX14_init_29 : decode cX14_init 29 = .ok (.dup, 1) := by decide +kernel
theorem dX14_init_30 : decode cX14_init 30 = .ok (.invokespecial 11, 3) := by decide +kernel
theorem dX14_init_33 : decode cX14_init 33 = .ok (.astore 6, 2) := by decide +kernel
theorem dX14_init_35 : decode cX14_init 35 = .ok (.iconst 0, 1) := by decide +kernel
theorem dX14_init_36 : decode cX14_init 36 = .ok (.istore 7, 2) := by decide +kernel
theorem dX14_init_38 : decode cX14_init 38 = .ok (.iconst 0, 1) := by decide +kernel
theorem dX14_init_39 : decode cX14_init 39 = .ok (.istore 8, 2) := by decide +kernel
theorem dX14_init_41 : decode cX14_init 41 = .ok (.iconst 0, 1) := by decide +kernel
theorem dX14_init_42 : decode cX14_init 42 = .ok (.istore 9, 2) := by decide +kernel
theorem dX14_init_44 : decode cX14_init 44 = .ok (.aload_n 0, 1) := by decide +kernel
theorem dX14_init_45 : decode cX14_init 45 = .ok (.bipush 32, 2) := by decide +kernel
theorem dX14_init_47 : decode cX14_init 47 = .ok (.putfield 18, 3) := by decide +kernel
theorem dX14_init_50 : decode cX14_init 50 = .ok (.aload_n 0, 1) := by decide +kernel
theorem dX14_init_51 : decode cX14_init 51 = .ok (.getfield 18, 3) := by decide +kernel
theorem dX14_init_54 : decode cX14_init 54 = .ok (.bipush 32, 2) := by decide +kernel
theorem dX14_init_56 : decode cX14_init 56 = .ok (.if_icmp .ne 683, 3) := by decide +kernel
theorem dX14_init_59 : decode cX14_init 59 = .ok (.aload_n 1, 1) := by decide +kernel
theorem dX14_init_60 : decode cX14_init 60 = .ok (.iload 9, 2) := by decide +kernel
theorem dX14_init_62 : decode cX14_init 62 = .ok (.invokestatic 22, 3) := by decide +kernel
theorem dX14_init_65 : decode cX14_init 65 = .ok (.ifCond .ne 12, 3) := by decide +kernel
theorem dX14_init_68 : decode cX14_init 68 = .ok (.aload_n 0, 1) := by decide +kernel
theorem dX14_init_69 : decode cX14_init 69 = .ok (.bipush 98, 2) := by decide +kernel
theorem dX14_init_71 : decode cX14_init 71 = .ok (.putfield 18, 3) := by decide +kernel
theorem dX14_init_74 : decode cX14_init 74 = .ok (.goto 35, 3) := by decide +kernel
theorem dX14_init_77 : decode cX14_init 77 = .ok (.aload_n 1, 1) := by decide +kernel
theorem dX14_init_78 : decode cX14_init 78 = .ok (.iload 9, 2) := by decide +kernel
theorem dX14_init_80 : decode cX14_init 80 = .ok (.invokestatic 26, 3) := by decide +kernel
theorem dX14_init_83 : decode cX14_init 83 = .ok (.ifCond .ne 12, 3) := by decide +kernel
theorem dX14_init_95 : decode cX14_init 95 = .ok (.aload_n 0, 1) := by decide +kernel
theorem dX14_init_96 : decode cX14_init 96 = .ok (.getfield 29, 3) := by decide +kernel
theorem dX14_init_99 : decode cX14_init 99 = .ok (.iload_n 3, 1) := by decide +kernel
theorem dX14_init_100 : decode cX14_init 100 = .ok (.if_icmp .ne 9, 3) := by decide +kernel
theorem dX14_init_103 : decode cX14_init 103 = .ok (.aload_n 0, 1) := by decide +kernel
theorem dX14_init_104 : decode cX14_init 104 = .ok (.bipush 115, 2) := by decide +kernel
theorem dX14_init_106 : decode cX14_init 106 = .ok (.putfield 18, 3) := by decide +kernel
theorem dX14_init_109 : decode cX14_init 109 = .ok (.aload_n 0, 1) := by decide +kernel
theorem dX14_init_110 : decode cX14_init 110 = .ok (.getfield 18, 3) := by decide +kernel
theorem dX14_init_113 : decode cX14_init 113 = .ok (.bipush 32, 2) := by decide +kernel
theorem dX14_init_115 : decode cX14_init 115 = .ok (.if_icmp .eq 4, 3) := by decide +kernel
theorem dX14_init_118 : decode cX14_init 118 = .ok (.return_, 1) := by decide +kernel
theorem dX14_init_119 : decode cX14_init 119 = .ok (.aload_n 0, 1) := by decide +kernel
theorem dX14_init_120 : decode cX14_init 120 = .ok (.dup, 1) := by decide +kernel
theorem dX14_init_121 : decode cX14_init 121 = .ok (.getfield 29, 3) := by decide +kernel
theorem dX14_init_124 : decode cX14_init 124 = .ok (.iconst 1, 1) := by decide +kernel
theorem dX14_init_125 : decode cX14_init 125 = .ok (.iadd, 1) := by decide +kernel
theorem dX14_init_126 : decode cX14_init 126 = .ok (.putfield 29, 3) := by decide +kernel
theorem dX14_init_129 : decode cX14_init 129 = .ok (.aload_n 1, 1) := by decide +kernel
theorem dX14_init_130 : decode cX14_init 130 = .ok (.iload 9, 2) := by decide +kernel
theorem dX14_init_132 : decode cX14_init 132 = .ok (.iaload, 1) := by decide +kernel
theorem dX14_init_133 : decode cX14_init 133 = .ok (.bipush 16, 2) := by decide +kernel
theorem dX14_init_135 : decode cX14_init 135 = .ok (.idiv, 1) := by decide +kernel
theorem dX14_init_136 : decode cX14_init 136 = .ok (.istore 10, 2) := by decide +kernel
theorem dX14_init_138 : decode cX14_init 138 = .ok (.aload_n 1, 1) := by decide +kernel
theorem dX14_init_139 : decode cX14_init 139 = .ok (.iload 9, 2) := by decide +kernel
theorem dX14_init_141 : decode cX14_init 141 = .ok (.iaload, 1) := by decide +kernel
theorem dX14_init_142 : decode cX14_init 142 = .ok (.bipush 16, 2) := by decide +kernel
theorem dX14_init_144 : decode cX14_init 144 = .ok (.irem, 1) := by decide +kernel
theorem dX14_init_145 : decode cX14_init 145 = .ok (.istore 11, 2) := by decide +kernel
theorem dX14_init_147 : decode cX14_init 147 = .ok (.iload 11, 2) := by decide +kernel
theorem dX14_init_149 : decode cX14_init 149 = .ok (.iconst 4, 1) := by decide +kernel
theorem dX14_init_150 : decode cX14_init 150 = .ok (.idiv, 1) := by decide +kernel
theorem dX14_init_151 : decode cX14_init 151 = .ok (.istore 12, 2) := by decide +kernel
theorem dX14_init_153 : decode cX14_init 153 = .ok (.iload 11, 2) := by decide +kernel
theorem dX14_init_155 : decode cX14_init 155 = .ok (.iconst 4, 1) := by decide +kernel
theorem dX14_init_156 : decode cX14_init 156 = .ok (.irem, 1) := by decide +kernel
theorem dX14_init_157 : decode cX14_init 157 = .ok (.istore 13, 2) := by decide +kernel
theorem dX14_init_159 : decode cX14_init 159 = .ok (.aload_n 1, 1) := by decide +kernel
theorem dX14_init_160 : decode cX14_init 160 = .ok (.iload 9, 2) := by decide +kernel
theorem dX14_init_162 : decode cX14_init 162 = .ok (.iaload, 1) := by decide +kernel
theorem dX14_init_163 : decode cX14_init 163 = .ok (.invokestatic 33, 3) := by decide +kernel
theorem dX14_init_166 : decode cX14_init 166 = .ok (.iconst 1, 1) := by decide +kernel
theorem dX14_init_167 : decode cX14_init 167 = .ok (.if_icmp .le 12, 3) := by decide +kernel
theorem dX14_init_170 : decode cX14_init 170 = .ok (.aload_n 1, 1) := by decide +kernel
theorem dX14_init_171 : decode cX14_init 171 = .ok (.iload 9, 2) := by decide +kernel
theorem dX14_init_173 : decode cX14_init 173 = .ok (.iconst 1, 1) := by decide +kernel
theorem dX14_init_174 : decode cX14_init 174 = .ok (.iadd, 1) := by decide +kernel
theorem dX14_init_175 : decode cX14_init 175 = .ok (.iaload, 1) := by decide +kernel
theorem dX14_init_176 : decode cX14_init 176 = .ok (.goto 4, 3) := by decide +kernel
theorem dX14_init_180 : decode cX14_init 180 = .ok (.istore 14, 2) := by decide +kernel
theorem dX14_init_182 : decode cX14_init 182 = .ok (.iload 9, 2) := by decide +kernel
theorem dX14_init_184 : decode cX14_init 184 = .ok (.aload_n 1, 1) := by decide +kernel
theorem dX14_init_185 : decode cX14_init 185 = .ok (.iload 9, 2) := by decide +kernel
theorem dX14_init_187 : decode cX14_init 187 = .ok (.iaload, 1) := by decide +kernel
theorem dX14_init_188 : decode cX14_init 188 = .ok (.invokestatic 33, 3) := by decide +kernel
theorem dX14_init_191 : decode cX14_init 191 = .ok (.iadd, 1) := by decide +kernel
theorem dX14_init_192 : decode cX14_init 192 = .ok (.istore 15, 2) := by decide +kernel
theorem dX14_init_194 : decode cX14_init 194 = .ok (.iload 10, 2) := by decide +kernel
theorem dX14_init_196 : decode cX14_init 196 = .ok (.tableswitch 322 0 12 #[68, 77, 103, 116, 132, 148, 164, 197, 322, 215, 255, 296, 309], 68) := by decide +kernel
theorem dX14_init_518 : decode cX14_init 518 = .ok (.iload 11, 2) := by decide +kernel
theorem dX14_init_520 : decode cX14_init 520 = .ok (.ifCond .eq 47, 3) := by decide +kernel
theorem dX14_init_567 : decode cX14_init 567 = .ok (.iconst 1, 1) := by decide +kernel
theorem dX14_init_568 : decode cX14_init 568 = .ok (.goto 4, 3) := by decide +kernel
theorem dX14_init_572 : decode cX14_init 572 = .ok (.istore 16, 2) := by decide +kernel
theorem dX14_init_574 : decode cX14_init 574 = .ok (.iload 11, 2) := by decide +kernel
theorem dX14_init_576 : decode cX14_init 576 = .ok (.iconst 4, 1) := by decide +kernel
theorem dX14_init_577 : decode cX14_init 577 = .ok (.if_icmp .gt 20, 3) := by decide +kernel
theorem dX14_init_580 : decode cX14_init 580 = .ok (.iload 16, 2) := by decide +kernel
theorem dX14_init_582 : decode cX14_init 582 = .ok (.ifCond .eq 8, 3) := by decide +kernel
theorem dX14_init_585 : decode cX14_init 585 = .ok (.iload 14, 2) := by decide +kernel
theorem dX14_init_587 : decode cX14_init 587 = .ok (.goto 5, 3) := by decide +kernel
theorem dX14_init_592 : decode cX14_init 592 = .ok (.istore 15, 2) := by decide +kernel
theorem dX14_init_594 : decode cX14_init 594 = .ok (.goto 138, 3) := by decide +kernel
theorem dX14_init_732 : decode cX14_init 732 = .ok (.iload 15, 2) := by decide +kernel
theorem dX14_init_734 : decode cX14_init 734 = .ok (.istore 9, 2) := by decide +kernel
theorem dX14_init_736 : decode cX14_init 736 = .ok (.goto (-686), 3) := by decide +kernel
theorem dX15_goTo_0 : decode cX15_goTo 0 = .ok (.aload_n 0, 1) := by decide +kernel
theorem dX15_goTo_1 : decode cX15_goTo 1 = .ok (.getfield 12, 3) := by decide +kernel
theorem dX15_goTo_4 : decode cX15_goTo 4 = .ok (.sipush 128, 3) := by decide +kernel
theorem dX15_goTo_7 : decode cX15_goTo 7 = .ok (.invokestatic 75, 3) := by decide +kernel
theorem dX15_goTo_10 : decode cX15_goTo 10 = .ok (.invokevirtual 81, 3) := by decide +kernel
theorem dX15_goTo_13 : decode cX15_goTo 13 = .ok (.pop, 1) := by decide +kernel
theorem dX15_goTo_14 : decode cX15_goTo 14 = .ok (.aload_n 0, 1) := by decide +kernel
theorem dX15_goTo_15 : decode cX15_goTo 15 = .ok (.getfield 12, 3) := by decide +kernel
theorem dX15_goTo_18 : decode cX15_goTo 18 = .ok (.iload_n 1, 1) := by decide +kernel
theorem dX15_goTo_19 : decode cX15_goTo 19 = .ok (.sipush 256, 3) := by decide +kernel
theorem dX15_goTo_22 : decode cX15_goTo 22 = .ok (.irem, 1) := by decide +kernel
theorem dX15_goTo_23 : decode cX15_goTo 23 = .ok (.invokestatic 75, 3) := by decide +kernel
theorem dX15_goTo_26 : decode cX15_goTo 26 = .ok (.invokevirtual 81, 3) := by decide +kernel
theorem dX15_goTo_29 : decode cX15_goTo 29 = .ok (.pop, 1) := by decide +kernel
theorem dX15_goTo_30 : decode cX15_goTo 30 = .ok (.return_, 1) := by decide +kernel
theorem dX15_init_0 : decode cX15_init 0 = .ok (.aload_n 0, 1) := by decide +kernel
theorem dX15_init_1 : decode cX15_init 1 = .ok (.invokespecial 3, 3) := by decide +kernel
theorem dX15_init_4 : decode cX15_init 4 = .ok (.aload_n 0, 1) := by decide +kernel
theorem dX15_init_5 : decode cX15_init 5 = .ok (.new 9, 3) := by decide +kernel
theorem dX15_init_8 : decode cX15_init 8 = .ok (.dup, 1) := by decide +kernel
theorem dX15_init_9 : decode cX15_init 9 = .ok (.invokespecial 11, 3) := by decide +kernel
theorem dX15_init_12 : decode cX15_init 12 = .ok (.putfield 12, 3) := by decide +kernel
theorem dX15_init_15 : decode cX15_init 15 = .ok (.aload_n 0, 1) := by decide +kernel
theorem dX15_init_16 : decode cX15_init 16 = .ok (.aload_n 1, 1) := by decide +kernel
theorem dX15_init_17 : decode cX15_init 17 = .ok (.putfield 18, 3) := by decide +kernel
theorem dX15_init_20 : decode cX15_init 20 = .ok (.aload_n 0, 1) := by decide +kernel
theorem dX15_init_21 : decode cX15_init 21 = .ok (.iload_n 2, 1) := by decide +kernel
theorem dX15_init_22 : decode cX15_init 22 = .ok (.putfield 22, 3) := by decide +kernel
theorem dX15_init_25 : decode cX15_init 25 = .ok (.aload_n 0, 1) := by decide +kernel
theorem dX15_init_26 : decode cX15_init 26 = .ok (.aload_n 1, 1) := by decide +kernel
theorem dX15_init_27 : decode cX15_init 27 = .ok (.getfield 26, 3) := by decide +kernel
theorem dX15_init_30 : decode cX15_init 30 = .ok (.invokevirtual 31, 3) := by decide +kernel
theorem dX15_init_33 : decode cX15_init 33 = .ok (.aload_n 1, 1) := by decide +kernel
theorem dX15_init_34 : decode cX15_init 34 = .ok (.getfield 35, 3) := by decide +kernel
theorem dX15_init_37 : decode cX15_init 37 = .ok (.arraylength, 1) := by decide +kernel
theorem dX15_init_38 : decode cX15_init 38 = .ok (.multianewarray 39 2, 4) := by decide +kernel
theorem dX15_init_42 : decode cX15_init 42 = .ok (.putfield 41, 3) := by decide +kernel
theorem dX15_init_45 : decode cX15_init 45 = .ok (.iconst 0, 1) := by decide +kernel
theorem dX15_init_46 : decode cX15_init 46 = .ok (.istore_n 3, 1) := by decide +kernel
theorem dX15_init_47 : decode cX15_init 47 = .ok (.iload_n 3, 1) := by decide +kernel
theorem dX15_init_48 : decode cX15_init 48 = .ok (.iconst 2, 1) := by decide +kernel
theorem dX15_init_49 : decode cX15_init 49 = .ok (.if_icmp .ge 93, 3) := by decide +kernel
theorem dX15_init_52 : decode cX15_init 52 = .ok (.aload_n 0, 1) := by decide +kernel
theorem dX15_init_53 : decode cX15_init 53 = .ok (.getfield 12, 3) := by decide +kernel
theorem dX15_init_56 : decode cX15_init 56 = .ok (.invokevirtual 44, 3) := by decide +kernel
theorem dX15_init_59 : decode cX15_init 59 = .ok (.aload_n 1, 1) := by decide +kernel
theorem dX15_init_60 : decode cX15_init 60 = .ok (.iconst 0, 1) := by decide +kernel
theorem dX15_init_61 : decode cX15_init 61 = .ok (.invokevirtual 47, 3) := by decide +kernel
theorem dX15_init_64 : decode cX15_init 64 = .ok (.iconst (-1), 1) := by decide +kernel
theorem dX15_init_65 : decode cX15_init 65 = .ok (.if_icmp .ne 10, 3) := by decide +kernel
theorem dX15_init_68 : decode cX15_init 68 = .ok (.aload_n 0, 1) := by decide +kernel
theorem dX15_init_69 : decode cX15_init 69 = .ok (.sipush 255, 3) := by decide +kernel
theorem dX15_init_72 : decode cX15_init 72 = .ok (.invokevirtual 51, 3) := by decide +kernel
theorem dX15_init_75 : decode cX15_init 75 = .ok (.aload_n 0, 1) := by decide +kernel
theorem dX15_init_76 : decode cX15_init 76 = .ok (.iconst 0, 1) := by decide +kernel
theorem dX15_init_77 : decode cX15_init 77 = .ok (.putfield 55, 3) := by decide +kernel
theorem dX15_init_80 : decode cX15_init 80 = .ok (.aload_n 0, 1) := by decide +kernel
theorem dX15_init_81 : decode cX15_init 81 = .ok (.getfield 55, 3) := by decide +kernel
theorem dX15_init_84 : decode cX15_init 84 = .ok (.aload_n 1, 1) := by decide +kernel
theorem dX15_init_85 : decode cX15_init 85 = .ok (.getfield 26, 3) := by decide +kernel
theorem dX15_init_88 : decode cX15_init 88 = .ok (.invokevirtual 31, 3) := by decide +kernel
theorem dX15_init_91 : decode cX15_init 91 = .ok (.if_icmp .ge 45, 3) := by decide +kernel
theorem dX15_init_136 : decode cX15_init 136 = .ok (.iinc 3 1, 3) := by decide +kernel
theorem dX15_init_139 : decode cX15_init 139 = .ok (.goto (-92), 3) := by decide +kernel
theorem dX15_init_142 : decode cX15_init 142 = .ok (.return_, 1) := by decide +kernel
theorem dX16_agree_0 : decode cX16_agree 0 = .ok (.aload_n 0, 1) := by decide +kernel
theorem dX16_agree_1 : decode cX16_agree 1 = .ok (.iload_n 1, 1) := by decide +kernel
theorem dX16_agree_2 : decode cX16_agree 2 = .ok (.iconst 0, 1) := by decide +kernel
theorem dX16_agree_3 : decode cX16_agree 3 = .ok (.sipush 2000, 3) := by decide +kernel
theorem dX16_agree_6 : decode cX16_agree 6 = .ok (.invokestatic 3, 3) := by decide +kernel
theorem dX16_agree_9 : decode cX16_agree 9 = .ok (.ifCond .eq 7, 3) := by decide +kernel
theorem dX16_agree_12 : decode cX16_agree 12 = .ok (.iconst 0, 1) := by decide +kernel
theorem dX16_agree_13 : decode cX16_agree 13 = .ok (.goto 4, 3) := by decide +kernel
theorem dX16_agree_16 : decode cX16_agree 16 = .ok (.iconst 1, 1) := by decide +kernel
theorem dX16_agree_17 : decode cX16_agree 17 = .ok (.putfield 33, 3) := by decide +kernel
theorem dX16_agree_20 : decode cX16_agree 20 = .ok (.aload_n 0, 1) := by decide +kernel
theorem dX16_agree_21 : decode cX16_agree 21 = .ok (.getfield 33, 3) := by decide +kernel
theorem dX16_agree_24 : decode cX16_agree 24 = .ok (.ifCond .le 5, 3) := by decide +kernel
theorem dX16_agree_27 : decode cX16_agree 27 = .ok (.iconst 0, 1) := by decide +kernel
theorem dX16_agree_28 : decode cX16_agree 28 = .ok (.ireturn, 1) := by decide +kernel
theorem dX16_agree_29 : decode cX16_agree 29 = .ok (.aload_n 0, 1) := by decide +kernel
theorem dX16_agree_30 : decode cX16_agree 30 = .ok (.invokevirtual 209, 3) := by decide +kernel
theorem dX16_agree_33 : decode cX16_agree 33 = .ok (.astore_n 2, 1) := by decide +kernel
theorem dX16_agree_34 : decode cX16_agree 34 = .ok (.aload_n 0, 1) := by decide +kernel
theorem dX16_agree_35 : decode cX16_agree 35 = .ok (.aload_n 2, 1) := by decide +kernel
theorem dX16_agree_36 : decode cX16_agree 36 = .ok (.arraylength, 1) := by decide +kernel
theorem dX16_agree_37 : decode cX16_agree 37 = .ok (.sipush 240, 3) := by decide +kernel
theorem dX16_agree_40 : decode cX16_agree 40 = .ok (.if_icmp .le 7, 3) := by decide +kernel
theorem dX16_agree_47 : decode cX16_agree 47 = .ok (.iconst 0, 1) := by decide +kernel
theorem dX16_agree_48 : decode cX16_agree 48 = .ok (.putfield 33, 3) := by decide +kernel
theorem dX16_agree_51 : decode cX16_agree 51 = .ok (.aload_n 0, 1) := by decide +kernel
theorem dX16_agree_52 : decode cX16_agree 52 = .ok (.getfield 33, 3) := by decide +kernel
theorem dX16_agree_55 : decode cX16_agree 55 = .ok (.ifCond .ne 16, 3) := by decide +kernel
theorem dX16_agree_58 : decode cX16_agree 58 = .ok (.aload_n 0, 1) := by decide +kernel
theorem dX16_agree_59 : decode cX16_agree 59 = .ok (.aload_n 2, 1) := by decide +kernel
theorem dX16_agree_60 : decode cX16_agree 60 = .ok (.iload_n 1, 1) := by decide +kernel
theorem dX16_agree_61 : decode cX16_agree 61 = .ok (.invokevirtual 241, 3) := by decide +kernel
theorem dX16_agree_64 : decode cX16_agree 64 = .ok (.ifCond .eq 7, 3) := by decide +kernel
theorem dX16_agree_67 : decode cX16_agree 67 = .ok (.iconst 1, 1) := by decide +kernel
theorem dX16_agree_68 : decode cX16_agree 68 = .ok (.goto 4, 3) := by decide +kernel
theorem dX16_agree_72 : decode cX16_agree 72 = .ok (.ireturn, 1) := by decide +kernel
theorem dX16_agrees_0 : decode cX16_agrees 0 = .ok (.new 213, 3) := by decide +kernel
theorem dX16_agrees_3 : decode cX16_agrees 3 = .ok (.dup, 1) := by decide +kernel
theorem dX16_agrees_4 : decode cX16_agrees 4 = .ok (.aload_n 0, 1) := by decide +kernel
theorem dX16_agrees_5 : decode cX16_agrees 5 = .ok (.getfield 20, 3) := by decide +kernel
theorem dX16_agrees_8 : decode cX16_agrees 8 = .ok (.invokestatic 52, 3) := by decide +kernel
theorem dX16_agrees_11 : decode cX16_agrees 11 = .ok (.aload_n 0, 1) := by decide +kernel
theorem dX16_agrees_12 : decode cX16_agrees 12 = .ok (.getfield 27, 3) := by decide +kernel
theorem dX16_agrees_15 : decode cX16_agrees 15 = .ok (.iload_n 2, 1) := by decide +kernel
theorem dX16_agrees_16 : decode cX16_agrees 16 = .ok (.invokespecial 215, 3) := by decide +kernel
theorem dX16_agrees_19 : decode cX16_agrees 19 = .ok (.astore_n 3, 1) := by decide +kernel
theorem dX16_agrees_20 : decode cX16_agrees 20 = .ok (.new 213, 3) := by decide +kernel
theorem dX16_agrees_23 : decode cX16_agrees 23 = .ok (.dup, 1) := by decide +kernel
theorem dX16_agrees_24 : decode cX16_agrees 24 = .ok (.aload_n 1, 1) := by decide +kernel
theorem dX16_agrees_25 : decode cX16_agrees 25 = .ok (.aload_n 0, 1) := by decide +kernel
theorem dX16_agrees_26 : decode cX16_agrees 26 = .ok (.getfield 27, 3) := by decide +kernel
theorem dX16_agrees_29 : decode cX16_agrees 29 = .ok (.iload_n 2, 1) := by decide +kernel
theorem dX16_agrees_30 : decode cX16_agrees 30 = .ok (.invokespecial 215, 3) := by decide +kernel
theorem dX16_agrees_33 : decode cX16_agrees 33 = .ok (.astore 4, 2) := by decide +kernel
theorem dX16_agrees_35 : decode cX16_agrees 35 = .ok (.iconst 1, 1) := by decide +kernel
theorem dX16_agrees_36 : decode cX16_agrees 36 = .ok (.istore 5, 2) := by decide +kernel
theorem dX16_agrees_38 : decode cX16_agrees 38 = .ok (.iconst 0, 1) := by decide +kernel
theorem dX16_agrees_39 : decode cX16_agrees 39 = .ok (.istore 6, 2) := by decide +kernel
theorem dX16_agrees_41 : decode cX16_agrees 41 = .ok (.iload 6, 2) := by decide +kernel
theorem dX16_agrees_43 : decode cX16_agrees 43 = .ok (.aload_n 3, 1) := by decide +kernel
theorem dX16_agrees_44 : decode cX16_agrees 44 = .ok (.getfield 226, 3) := by decide +kernel
theorem dX16_agrees_47 : decode cX16_agrees 47 = .ok (.invokevirtual 37, 3) := by decide +kernel
theorem dX16_agrees_50 : decode cX16_agrees 50 = .ok (.aload 4, 2) := by decide +kernel
theorem dX16_agrees_52 : decode cX16_agrees 52 = .ok (.getfield 226, 3) := by decide +kernel
theorem dX16_agrees_55 : decode cX16_agrees 55 = .ok (.invokevirtual 37, 3) := by decide +kernel
theorem dX16_agrees_58 : decode cX16_agrees 58 = .ok (.invokestatic 232, 3) := by decide +kernel
theorem dX16_agrees_61 : decode cX16_agrees 61 = .ok (.if_icmp .ge 49, 3) := by decide +kernel
theorem dX16_agrees_110 : decode cX16_agrees 110 = .ok (.aload_n 3, 1) := by decide +kernel
theorem dX16_agrees_111 : decode cX16_agrees 111 = .ok (.getfield 222, 3) := by decide +kernel
theorem dX16_agrees_114 : decode cX16_agrees 114 = .ok (.bipush 115, 2) := by decide +kernel
theorem dX16_agrees_116 : decode cX16_agrees 116 = .ok (.if_icmp .eq 13, 3) := by decide +kernel
theorem dX16_agrees_119 : decode cX16_agrees 119 = .ok (.aload 4, 2) := by decide +kernel
theorem dX16_agrees_121 : decode cX16_agrees 121 = .ok (.getfield 222, 3) := by decide +kernel
theorem dX16_agrees_124 : decode cX16_agrees 124 = .ok (.bipush 115, 2) := by decide +kernel
theorem dX16_agrees_126 : decode cX16_agrees 126 = .ok (.if_icmp .ne 7, 3) := by decide +kernel
theorem dX16_agrees_129 : decode cX16_agrees 129 = .ok (.iconst 1, 1) := by decide +kernel
theorem dX16_agrees_130 : decode cX16_agrees 130 = .ok (.goto 4, 3) := by decide +kernel
theorem dX16_agrees_133 : decode cX16_agrees 133 = .ok (.iconst 0, 1) := by decide +kernel
theorem dX16_agrees_134 : decode cX16_agrees 134 = .ok (.istore 6, 2) := by decide +kernel
theorem dX16_agrees_136 : decode cX16_agrees 136 = .ok (.iload 5, 2) := by decide +kernel
theorem dX16_agrees_138 : decode cX16_agrees 138 = .ok (.ifCond .eq 42, 3) := by decide +kernel
theorem dX16_agrees_141 : decode cX16_agrees 141 = .ok (.iload 6, 2) := by decide +kernel
theorem dX16_agrees_143 : decode cX16_agrees 143 = .ok (.ifCond .ne 33, 3) := by decide +kernel
theorem dX16_agrees_146 : decode cX16_agrees 146 = .ok (.aload_n 3, 1) := by decide +kernel
theorem dX16_agrees_147 : decode cX16_agrees 147 = .ok (.getfield 222, 3) := by decide +kernel
theorem dX16_agrees_150 : decode cX16_agrees 150 = .ok (.aload 4, 2) := by decide +kernel
theorem dX16_agrees_152 : decode cX16_agrees 152 = .ok (.getfield 222, 3) := by decide +kernel
theorem dX16_agrees_155 : decode cX16_agrees 155 = .ok (.if_icmp .ne 25, 3) := by decide +kernel
theorem dX16_agrees_158 : decode cX16_agrees 158 = .ok (.aload_n 3, 1) := by decide +kernel
theorem dX16_agrees_159 : decode cX16_agrees 159 = .ok (.getfield 226, 3) := by decide +kernel
theorem dX16_agrees_162 : decode cX16_agrees 162 = .ok (.invokevirtual 37, 3) := by decide +kernel
theorem dX16_agrees_165 : decode cX16_agrees 165 = .ok (.aload 4, 2) := by decide +kernel
theorem dX16_agrees_167 : decode cX16_agrees 167 = .ok (.getfield 226, 3) := by decide +kernel
theorem dX16_agrees_170 : decode cX16_agrees 170 = .ok (.invokevirtual 37, 3) := by decide +kernel
theorem dX16_agrees_173 : decode cX16_agrees 173 = .ok (.if_icmp .ne 7, 3) := by decide +kernel
theorem dX16_agrees_176 : decode cX16_agrees 176 = .ok (.iconst 1, 1) := by decide +kernel
theorem dX16_agrees_177 : decode cX16_agrees 177 = .ok (.goto 4, 3) := by decide +kernel
theorem dX16_agrees_181 : decode cX16_agrees 181 = .ok (.ireturn, 1) := by decide +kernel
theorem dX16_back_0 : decode cX16_back 0 = .ok (.new 201, 3) := by decide +kernel
theorem dX16_back_3 : decode cX16_back 3 = .ok (.dup, 1) := by decide +kernel
theorem dX16_back_4 : decode cX16_back 4 = .ok (.aload_n 0, 1) := by decide +kernel
theorem dX16_back_5 : decode cX16_back 5 = .ok (.invokevirtual 59, 3) := by decide +kernel
theorem dX16_back_8 : decode cX16_back 8 = .ok (.aload_n 0, 1) := by decide +kernel
theorem dX16_back_9 : decode cX16_back 9 = .ok (.getfield 185, 3) := by decide +kernel
theorem dX16_back_12 : decode cX16_back 12 = .ok (.invokespecial 203, 3) := by decide +kernel
theorem dX16_back_15 : decode cX16_back 15 = .ok (.getfield 206, 3) := by decide +kernel
theorem dX16_back_18 : decode cX16_back 18 = .ok (.invokestatic 52, 3) := by decide +kernel
theorem dX16_back_21 : decode cX16_back 21 = .ok (.areturn, 1) := by decide +kernel
theorem dX16_blocks_0 : decode cX16_blocks 0 = .ok (.aload_n 0, 1) := by decide +kernel
theorem dX16_blocks_1 : decode cX16_blocks 1 = .ok (.iload_n 1, 1) := by decide +kernel
theorem dX16_blocks_2 : decode cX16_blocks 2 = .ok (.invokevirtual 68, 3) := by decide +kernel
theorem dX16_blocks_5 : decode cX16_blocks 5 = .ok (.astore_n 2, 1) := by decide +kernel
theorem dX16_blocks_6 : decode cX16_blocks 6 = .ok (.aload_n 2, 1) := by decide +kernel
theorem dX16_blocks_7 : decode cX16_blocks 7 = .ok (.ifnonnull 7, 3) := by decide +kernel
theorem dX16_blocks_10 : decode cX16_blocks 10 = .ok (.iconst 0, 1) := by decide +kernel
theorem dX16_blocks_11 : decode cX16_blocks 11 = .ok (.goto 8, 3) := by decide +kernel
theorem dX16_blocks_19 : decode cX16_blocks 19 = .ok (.ireturn, 1) := by decide +kernel
theorem dX16_byteAt_0 : decode cX16_byteAt 0 = .ok (.aload_n 0, 1) := by decide +kernel
theorem dX16_byteAt_1 : decode cX16_byteAt 1 = .ok (.iload_n 1, 1) := by decide +kernel
theorem dX16_byteAt_2 : decode cX16_byteAt 2 = .ok (.invokevirtual 88, 3) := by decide +kernel
theorem dX16_byteAt_5 : decode cX16_byteAt 5 = .ok (.ifCond .eq 7, 3) := by decide +kernel
theorem dX16_byteAt_8 : decode cX16_byteAt 8 = .ok (.iconst 0, 1) := by decide +kernel
theorem dX16_byteAt_9 : decode cX16_byteAt 9 = .ok (.goto 17, 3) := by decide +kernel
theorem dX16_byteAt_26 : decode cX16_byteAt 26 = .ok (.ireturn, 1) := by decide +kernel
theorem dX16_calls_0 : decode cX16_calls 0 = .ok (.aload_n 0, 1) := by decide +kernel
theorem dX16_calls_1 : decode cX16_calls 1 = .ok (.iload_n 2, 1) := by decide +kernel
theorem dX16_calls_2 : decode cX16_calls 2 = .ok (.invokevirtual 68, 3) := by decide +kernel
theorem dX16_calls_5 : decode cX16_calls 5 = .ok (.astore_n 3, 1) := by decide +kernel
theorem dX16_calls_6 : decode cX16_calls 6 = .ok (.aload_n 3, 1) := by decide +kernel
theorem dX16_calls_7 : decode cX16_calls 7 = .ok (.ifnonnull 7, 3) := by decide +kernel
theorem dX16_calls_10 : decode cX16_calls 10 = .ok (.aconst_null, 1) := by decide +kernel
theorem dX16_calls_11 : decode cX16_calls 11 = .ok (.goto 8, 3) := by decide +kernel
theorem dX16_calls_19 : decode cX16_calls 19 = .ok (.astore 4, 2) := by decide +kernel
theorem dX16_calls_21 : decode cX16_calls 21 = .ok (.iconst 0, 1) := by decide +kernel
theorem dX16_calls_22 : decode cX16_calls 22 = .ok (.istore 5, 2) := by decide +kernel
theorem dX16_calls_24 : decode cX16_calls 24 = .ok (.iconst 0, 1) := by decide +kernel
theorem dX16_calls_25 : decode cX16_calls 25 = .ok (.istore 6, 2) := by decide +kernel
theorem dX16_calls_27 : decode cX16_calls 27 = .ok (.aload 4, 2) := by decide +kernel
theorem dX16_calls_29 : decode cX16_calls 29 = .ok (.ifnull 97, 3) := by decide +kernel
theorem dX16_calls_126 : decode cX16_calls 126 = .ok (.iload 5, 2) := by decide +kernel
theorem dX16_calls_128 : decode cX16_calls 128 = .ok (.ireturn, 1) := by decide +kernel
theorem dX16_checksum_0 : decode cX16_checksum 0 = .ok (.aload_n 0, 1) := by decide +kernel
theorem dX16_checksum_1 : decode cX16_checksum 1 = .ok (.iconst 0, 1) := by decide +kernel
theorem dX16_checksum_2 : decode cX16_checksum 2 = .ok (.putfield 33, 3) := by decide +kernel
theorem dX16_checksum_5 : decode cX16_checksum 5 = .ok (.aload_n 0, 1) := by decide +kernel
theorem dX16_checksum_6 : decode cX16_checksum 6 = .ok (.invokevirtual 59, 3) := by decide +kernel
theorem dX16_checksum_9 : decode cX16_checksum 9 = .ok (.astore_n 1, 1) := by decide +kernel
theorem dX16_checksum_10 : decode cX16_checksum 10 = .ok (.ldc2_w 267, 3) := by decide +kernel
theorem dX16_checksum_13 : decode cX16_checksum 13 = .ok (.lstore_n 2, 1) := by decide +kernel
theorem dX16_checksum_14 : decode cX16_checksum 14 = .ok (.iconst 0, 1) := by decide +kernel
theorem dX16_checksum_15 : decode cX16_checksum 15 = .ok (.istore 4, 2) := by decide +kernel
theorem dX16_checksum_17 : decode cX16_checksum 17 = .ok (.iload 4, 2) := by decide +kernel
theorem dX16_checksum_19 : decode cX16_checksum 19 = .ok (.aload_n 0, 1) := by decide +kernel
theorem dX16_checksum_20 : decode cX16_checksum 20 = .ok (.getfield 20, 3) := by decide +kernel
theorem dX16_checksum_23 : decode cX16_checksum 23 = .ok (.invokevirtual 37, 3) := by decide +kernel
theorem dX16_checksum_26 : decode cX16_checksum 26 = .ok (.if_icmp .ge 23, 3) := by decide +kernel
theorem dX16_checksum_49 : decode cX16_checksum 49 = .ok (.aload_n 1, 1) := by decide +kernel
theorem dX16_checksum_50 : decode cX16_checksum 50 = .ok (.getfield 63, 3) := by decide +kernel
theorem dX16_checksum_53 : decode cX16_checksum 53 = .ok (.invokevirtual 122, 3) := by decide +kernel
theorem dX16_checksum_56 : decode cX16_checksum 56 = .ok (.astore 4, 2) := by decide +kernel
theorem dX16_checksum_58 : decode cX16_checksum 58 = .ok (.aload 4, 2) := by decide +kernel
theorem dX16_checksum_60 : decode cX16_checksum 60 = .ok (.invokeinterface 126 1, 5) := by decide +kernel
theorem dX16_checksum_65 : decode cX16_checksum 65 = .ok (.ifCond .eq 51, 3) := by decide +kernel
theorem dX16_checksum_116 : decode cX16_checksum 116 = .ok (.lload_n 2, 1) := by decide +kernel
theorem dX16_checksum_117 : decode cX16_checksum 117 = .ok (.lreturn, 1) := by decide +kernel
theorem dX16_codeShare_0 : decode cX16_codeShare 0 = .ok (.aload_n 0, 1) := by decide +kernel
theorem dX16_codeShare_1 : decode cX16_codeShare 1 = .ok (.aload_n 0, 1) := by decide +kernel
theorem dX16_codeShare_2 : decode cX16_codeShare 2 = .ok (.getfield 20, 3) := by decide +kernel
theorem dX16_codeShare_5 : decode cX16_codeShare 5 = .ok (.invokevirtual 271, 3) := by decide +kernel
theorem dX16_codeShare_8 : decode cX16_codeShare 8 = .ok (.ifCond .eq 7, 3) := by decide +kernel
theorem dX16_codeShare_11 : decode cX16_codeShare 11 = .ok (.iconst 1, 1) := by decide +kernel
theorem dX16_codeShare_12 : decode cX16_codeShare 12 = .ok (.goto 4, 3) := by decide +kernel
theorem dX16_codeShare_16 : decode cX16_codeShare 16 = .ok (.putfield 33, 3) := by decide +kernel
theorem dX16_codeShare_19 : decode cX16_codeShare 19 = .ok (.aload_n 0, 1) := by decide +kernel
theorem dX16_codeShare_20 : decode cX16_codeShare 20 = .ok (.getfield 33, 3) := by decide +kernel
theorem dX16_codeShare_23 : decode cX16_codeShare 23 = .ok (.ifCond .le 5, 3) := by decide +kernel
theorem dX16_codeShare_26 : decode cX16_codeShare 26 = .ok (.fconst 0, 1) := by decide +kernel
theorem dX16_codeShare_27 : decode cX16_codeShare 27 = .ok (.freturn, 1) := by decide +kernel
theorem dX16_compiled_0 : decode cX16_compiled 0 = .ok (.aload_n 0, 1) := by decide +kernel
theorem dX16_compiled_1 : decode cX16_compiled 1 = .ok (.invokevirtual 209, 3) := by decide +kernel
theorem dX16_compiled_4 : decode cX16_compiled 4 = .ok (.arraylength, 1) := by decide +kernel
theorem dX16_compiled_5 : decode cX16_compiled 5 = .ok (.istore_n 1, 1) := by decide +kernel
theorem dX16_compiled_6 : decode cX16_compiled 6 = .ok (.aload_n 0, 1) := by decide +kernel
theorem dX16_compiled_7 : decode cX16_compiled 7 = .ok (.iload_n 1, 1) := by decide +kernel
theorem dX16_compiled_8 : decode cX16_compiled 8 = .ok (.sipush 240, 3) := by decide +kernel
theorem dX16_compiled_11 : decode cX16_compiled 11 = .ok (.if_icmp .le 7, 3) := by decide +kernel
theorem dX16_compiled_18 : decode cX16_compiled 18 = .ok (.iconst 0, 1) := by decide +kernel
theorem dX16_compiled_19 : decode cX16_compiled 19 = .ok (.putfield 33, 3) := by decide +kernel
theorem dX16_compiled_22 : decode cX16_compiled 22 = .ok (.aload_n 0, 1) := by decide +kernel
theorem dX16_compiled_23 : decode cX16_compiled 23 = .ok (.getfield 33, 3) := by decide +kernel
theorem dX16_compiled_26 : decode cX16_compiled 26 = .ok (.ifCond .le 7, 3) := by decide +kernel
theorem dX16_compiled_33 : decode cX16_compiled 33 = .ok (.iload_n 1, 1) := by decide +kernel
theorem dX16_compiled_34 : decode cX16_compiled 34 = .ok (.ireturn, 1) := by decide +kernel
theorem dX16_compiledByte_0 : decode cX16_compiledByte 0 = .ok (.aload_n 0, 1) := by decide +kernel
theorem dX16_compiledByte_1 : decode cX16_compiledByte 1 = .ok (.invokevirtual 209, 3) := by decide +kernel
theorem dX16_compiledByte_4 : decode cX16_compiledByte 4 = .ok (.astore_n 2, 1) := by decide +kernel
theorem dX16_compiledByte_5 : decode cX16_compiledByte 5 = .ok (.aload_n 0, 1) := by decide +kernel
theorem dX16_compiledByte_6 : decode cX16_compiledByte 6 = .ok (.aload_n 2, 1) := by decide +kernel
theorem dX16_compiledByte_7 : decode cX16_compiledByte 7 = .ok (.arraylength, 1) := by decide +kernel
theorem dX16_compiledByte_8 : decode cX16_compiledByte 8 = .ok (.sipush 240, 3) := by decide +kernel
theorem dX16_compiledByte_11 : decode cX16_compiledByte 11 = .ok (.if_icmp .le 7, 3) := by decide +kernel
theorem dX16_compiledByte_18 : decode cX16_compiledByte 18 = .ok (.iload_n 1, 1) := by decide +kernel
theorem dX16_compiledByte_19 : decode cX16_compiledByte 19 = .ok (.iconst 0, 1) := by decide +kernel
theorem dX16_compiledByte_20 : decode cX16_compiledByte 20 = .ok (.aload_n 2, 1) := by decide +kernel
theorem dX16_compiledByte_21 : decode cX16_compiledByte 21 = .ok (.arraylength, 1) := by decide +kernel
theorem dX16_compiledByte_22 : decode cX16_compiledByte 22 = .ok (.iconst 1, 1) := by decide +kernel
theorem dX16_compiledByte_23 : decode cX16_compiledByte 23 = .ok (.isub, 1) := by decide +kernel
theorem dX16_compiledByte_24 : decode cX16_compiledByte 24 = .ok (.invokestatic 3, 3) := by decide +kernel
theorem dX16_compiledByte_27 : decode cX16_compiledByte 27 = .ok (.ifCond .ne 7, 3) := by decide +kernel
theorem dX16_compiledByte_30 : decode cX16_compiledByte 30 = .ok (.iconst 2, 1) := by decide +kernel
theorem dX16_compiledByte_31 : decode cX16_compiledByte 31 = .ok (.goto 4, 3) := by decide +kernel
theorem dX16_compiledByte_34 : decode cX16_compiledByte 34 = .ok (.iconst 0, 1) := by decide +kernel
theorem dX16_compiledByte_35 : decode cX16_compiledByte 35 = .ok (.putfield 33, 3) := by decide +kernel
theorem dX16_compiledByte_38 : decode cX16_compiledByte 38 = .ok (.aload_n 0, 1) := by decide +kernel
theorem dX16_compiledByte_39 : decode cX16_compiledByte 39 = .ok (.getfield 33, 3) := by decide +kernel
theorem dX16_compiledByte_42 : decode cX16_compiledByte 42 = .ok (.ifCond .le 7, 3) := by decide +kernel
theorem dX16_compiledByte_45 : decode cX16_compiledByte 45 = .ok (.iconst 0, 1) := by decide +kernel
theorem dX16_compiledByte_46 : decode cX16_compiledByte 46 = .ok (.goto 6, 3) := by decide +kernel
theorem dX16_compiledByte_49 : decode cX16_compiledByte 49 = .ok (.aload_n 2, 1) := by decide +kernel
theorem dX16_compiledByte_50 : decode cX16_compiledByte 50 = .ok (.iload_n 1, 1) := by decide +kernel
theorem dX16_compiledByte_51 : decode cX16_compiledByte 51 = .ok (.iaload, 1) := by decide +kernel
theorem dX16_compiledByte_52 : decode cX16_compiledByte 52 = .ok (.ireturn, 1) := by decide +kernel
theorem dX16_depth_0 : decode cX16_depth 0 = .ok (.aload_n 0, 1) := by decide +kernel
theorem dX16_depth_1 : decode cX16_depth 1 = .ok (.iload_n 1, 1) := by decide +kernel
theorem dX16_depth_2 : decode cX16_depth 2 = .ok (.iload_n 2, 1) := by decide +kernel
theorem dX16_depth_3 : decode cX16_depth 3 = .ok (.invokevirtual 145, 3) := by decide +kernel
theorem dX16_depth_6 : decode cX16_depth 6 = .ok (.astore_n 3, 1) := by decide +kernel
theorem dX16_depth_7 : decode cX16_depth 7 = .ok (.aload_n 3, 1) := by decide +kernel
theorem dX16_depth_8 : decode cX16_depth 8 = .ok (.ifnonnull 7, 3) := by decide +kernel
theorem dX16_depth_11 : decode cX16_depth 11 = .ok (.iconst 0, 1) := by decide +kernel
theorem dX16_depth_12 : decode cX16_depth 12 = .ok (.goto 8, 3) := by decide +kernel
theorem dX16_depth_20 : decode cX16_depth 20 = .ok (.ireturn, 1) := by decide +kernel
theorem dX16_doubts_0 : decode cX16_doubts 0 = .ok (.aload_n 0, 1) := by decide +kernel
theorem dX16_doubts_1 : decode cX16_doubts 1 = .ok (.iconst 0, 1) := by decide +kernel
theorem dX16_doubts_2 : decode cX16_doubts 2 = .ok (.putfield 33, 3) := by decide +kernel
theorem dX16_doubts_5 : decode cX16_doubts 5 = .ok (.aload_n 0, 1) := by decide +kernel
theorem dX16_doubts_6 : decode cX16_doubts 6 = .ok (.invokevirtual 59, 3) := by decide +kernel
theorem dX16_doubts_9 : decode cX16_doubts 9 = .ok (.astore_n 1, 1) := by decide +kernel
theorem dX16_doubts_10 : decode cX16_doubts 10 = .ok (.iconst 0, 1) := by decide +kernel
theorem dX16_doubts_11 : decode cX16_doubts 11 = .ok (.istore_n 2, 1) := by decide +kernel
theorem dX16_doubts_12 : decode cX16_doubts 12 = .ok (.iconst 0, 1) := by decide +kernel
theorem dX16_doubts_13 : decode cX16_doubts 13 = .ok (.istore_n 3, 1) := by decide +kernel
theorem dX16_doubts_14 : decode cX16_doubts 14 = .ok (.iload_n 3, 1) := by decide +kernel
theorem dX16_doubts_15 : decode cX16_doubts 15 = .ok (.aload_n 0, 1) := by decide +kernel
theorem dX16_doubts_16 : decode cX16_doubts 16 = .ok (.getfield 20, 3) := by decide +kernel
theorem dX16_doubts_19 : decode cX16_doubts 19 = .ok (.invokevirtual 37, 3) := by decide +kernel
theorem dX16_doubts_22 : decode cX16_doubts 22 = .ok (.if_icmp .ge 25, 3) := by decide +kernel
theorem dX16_doubts_47 : decode cX16_doubts 47 = .ok (.iload_n 2, 1) := by decide +kernel
theorem dX16_doubts_48 : decode cX16_doubts 48 = .ok (.ireturn, 1) := by decide +kernel
theorem dX16_dry_0 : decode cX16_dry 0 = .ok (.aload_n 0, 1) := by decide +kernel
theorem dX16_dry_1 : decode cX16_dry 1 = .ok (.iconst 0, 1) := by decide +kernel
theorem dX16_dry_2 : decode cX16_dry 2 = .ok (.putfield 33, 3) := by decide +kernel
theorem dX16_dry_5 : decode cX16_dry 5 = .ok (.aload_n 0, 1) := by decide +kernel
theorem dX16_dry_6 : decode cX16_dry 6 = .ok (.getfield 27, 3) := by decide +kernel
theorem dX16_dry_9 : decode cX16_dry 9 = .ok (.invokevirtual 37, 3) := by decide +kernel
theorem dX16_dry_12 : decode cX16_dry 12 = .ok (.istore_n 1, 1) := by decide +kernel
theorem dX16_dry_13 : decode cX16_dry 13 = .ok (.aload_n 0, 1) := by decide +kernel
theorem dX16_dry_14 : decode cX16_dry 14 = .ok (.getfield 27, 3) := by decide +kernel
theorem dX16_dry_17 : decode cX16_dry 17 = .ok (.invokevirtual 96, 3) := by decide +kernel
theorem dX16_dry_20 : decode cX16_dry 20 = .ok (.iload_n 1, 1) := by decide +kernel
theorem dX16_dry_21 : decode cX16_dry 21 = .ok (.ireturn, 1) := by decide +kernel
theorem dX16_entry_0 : decode cX16_entry 0 = .ok (.aload_n 0, 1) := by decide +kernel
theorem dX16_entry_1 : decode cX16_entry 1 = .ok (.iload_n 1, 1) := by decide +kernel
theorem dX16_entry_2 : decode cX16_entry 2 = .ok (.invokevirtual 88, 3) := by decide +kernel
theorem dX16_entry_5 : decode cX16_entry 5 = .ok (.ifCond .eq 5, 3) := by decide +kernel
theorem dX16_entry_8 : decode cX16_entry 8 = .ok (.iconst 0, 1) := by decide +kernel
theorem dX16_entry_9 : decode cX16_entry 9 = .ok (.ireturn, 1) := by decide +kernel
theorem dX16_entryOf_0 : decode cX16_entryOf 0 = .ok (.aload_n 0, 1) := by decide +kernel
theorem dX16_entryOf_1 : decode cX16_entryOf 1 = .ok (.iload_n 1, 1) := by decide +kernel
theorem dX16_entryOf_2 : decode cX16_entryOf 2 = .ok (.invokevirtual 68, 3) := by decide +kernel
theorem dX16_entryOf_5 : decode cX16_entryOf 5 = .ok (.astore_n 2, 1) := by decide +kernel
theorem dX16_entryOf_6 : decode cX16_entryOf 6 = .ok (.aload_n 2, 1) := by decide +kernel
theorem dX16_entryOf_7 : decode cX16_entryOf 7 = .ok (.ifnonnull 7, 3) := by decide +kernel
theorem dX16_entryOf_10 : decode cX16_entryOf 10 = .ok (.iconst 0, 1) := by decide +kernel
theorem dX16_entryOf_11 : decode cX16_entryOf 11 = .ok (.goto 7, 3) := by decide +kernel
theorem dX16_entryOf_18 : decode cX16_entryOf 18 = .ok (.ireturn, 1) := by decide +kernel
theorem dX16_first_0 : decode cX16_first 0 = .ok (.aload_n 0, 1) := by decide +kernel
theorem dX16_first_1 : decode cX16_first 1 = .ok (.iload_n 1, 1) := by decide +kernel
theorem dX16_first_2 : decode cX16_first 2 = .ok (.iload_n 2, 1) := by decide +kernel
theorem dX16_first_3 : decode cX16_first 3 = .ok (.invokevirtual 145, 3) := by decide +kernel
theorem dX16_first_6 : decode cX16_first 6 = .ok (.astore_n 3, 1) := by decide +kernel
theorem dX16_first_7 : decode cX16_first 7 = .ok (.aload_n 3, 1) := by decide +kernel
theorem dX16_first_8 : decode cX16_first 8 = .ok (.ifnonnull 7, 3) := by decide +kernel
theorem dX16_first_11 : decode cX16_first 11 = .ok (.iconst 0, 1) := by decide +kernel
theorem dX16_first_12 : decode cX16_first 12 = .ok (.goto 17, 3) := by decide +kernel
theorem dX16_first_29 : decode cX16_first 29 = .ok (.ireturn, 1) := by decide +kernel
theorem dX16_function_0 : decode cX16_function 0 = .ok (.aload_n 0, 1) := by decide +kernel
theorem dX16_function_1 : decode cX16_function 1 = .ok (.invokevirtual 59, 3) := by decide +kernel
theorem dX16_function_4 : decode cX16_function 4 = .ok (.astore_n 2, 1) := by decide +kernel
theorem dX16_function_5 : decode cX16_function 5 = .ok (.aload_n 0, 1) := by decide +kernel
theorem dX16_function_6 : decode cX16_function 6 = .ok (.iload_n 1, 1) := by decide +kernel
theorem dX16_function_7 : decode cX16_function 7 = .ok (.iconst 0, 1) := by decide +kernel
theorem dX16_function_8 : decode cX16_function 8 = .ok (.aload_n 2, 1) := by decide +kernel
theorem dX16_function_9 : decode cX16_function 9 = .ok (.getfield 63, 3) := by decide +kernel
theorem dX16_function_12 : decode cX16_function 12 = .ok (.invokevirtual 37, 3) := by decide +kernel
theorem dX16_function_15 : decode cX16_function 15 = .ok (.iconst 1, 1) := by decide +kernel
theorem dX16_function_16 : decode cX16_function 16 = .ok (.isub, 1) := by decide +kernel
theorem dX16_function_17 : decode cX16_function 17 = .ok (.invokestatic 3, 3) := by decide +kernel
theorem dX16_function_20 : decode cX16_function 20 = .ok (.ifCond .eq 7, 3) := by decide +kernel
theorem dX16_function_27 : decode cX16_function 27 = .ok (.iconst 1, 1) := by decide +kernel
theorem dX16_function_28 : decode cX16_function 28 = .ok (.putfield 33, 3) := by decide +kernel
theorem dX16_function_31 : decode cX16_function 31 = .ok (.aload_n 0, 1) := by decide +kernel
theorem dX16_function_32 : decode cX16_function 32 = .ok (.getfield 33, 3) := by decide +kernel
theorem dX16_function_35 : decode cX16_function 35 = .ok (.ifCond .le 7, 3) := by decide +kernel
theorem dX16_function_38 : decode cX16_function 38 = .ok (.aconst_null, 1) := by decide +kernel
theorem dX16_function_39 : decode cX16_function 39 = .ok (.goto 14, 3) := by decide +kernel
theorem dX16_function_53 : decode cX16_function 53 = .ok (.areturn, 1) := by decide +kernel
theorem dX16_functionOf_0 : decode cX16_functionOf 0 = .ok (.aload_n 0, 1) := by decide +kernel
theorem dX16_functionOf_1 : decode cX16_functionOf 1 = .ok (.iload_n 1, 1) := by decide +kernel
theorem dX16_functionOf_2 : decode cX16_functionOf 2 = .ok (.invokevirtual 88, 3) := by decide +kernel
theorem dX16_functionOf_5 : decode cX16_functionOf 5 = .ok (.ifCond .eq 5, 3) := by decide +kernel
theorem dX16_functionOf_8 : decode cX16_functionOf 8 = .ok (.iconst 0, 1) := by decide +kernel
theorem dX16_functionOf_9 : decode cX16_functionOf 9 = .ok (.ireturn, 1) := by decide +kernel
theorem dX16_functions_0 : decode cX16_functions 0 = .ok (.aload_n 0, 1) := by decide +kernel
theorem dX16_functions_1 : decode cX16_functions 1 = .ok (.iconst 0, 1) := by decide +kernel
theorem dX16_functions_2 : decode cX16_functions 2 = .ok (.putfield 33, 3) := by decide +kernel
theorem dX16_functions_5 : decode cX16_functions 5 = .ok (.aload_n 0, 1) := by decide +kernel
theorem dX16_functions_6 : decode cX16_functions 6 = .ok (.invokevirtual 59, 3) := by decide +kernel
theorem dX16_functions_9 : decode cX16_functions 9 = .ok (.getfield 63, 3) := by decide +kernel
theorem dX16_functions_12 : decode cX16_functions 12 = .ok (.invokevirtual 37, 3) := by decide +kernel
theorem dX16_functions_15 : decode cX16_functions 15 = .ok (.ireturn, 1) := by decide +kernel
theorem dX16_in_0 : decode cX16_in 0 = .ok (.iload_n 0, 1) := by decide +kernel
theorem dX16_in_1 : decode cX16_in 1 = .ok (.iload_n 1, 1) := by decide +kernel
theorem dX16_in_2 : decode cX16_in 2 = .ok (.if_icmp .lt 12, 3) := by decide +kernel
theorem dX16_in_5 : decode cX16_in 5 = .ok (.iload_n 0, 1) := by decide +kernel
theorem dX16_in_6 : decode cX16_in 6 = .ok (.iload_n 2, 1) := by decide +kernel
theorem dX16_in_7 : decode cX16_in 7 = .ok (.if_icmp .gt 7, 3) := by decide +kernel
theorem dX16_in_10 : decode cX16_in 10 = .ok (.iconst 1, 1) := by decide +kernel
theorem dX16_in_11 : decode cX16_in 11 = .ok (.goto 4, 3) := by decide +kernel
theorem dX16_in_14 : decode cX16_in 14 = .ok (.iconst 0, 1) := by decide +kernel
theorem dX16_in_15 : decode cX16_in 15 = .ok (.ireturn, 1) := by decide +kernel
theorem dX16_init_0 : decode cX16_init 0 = .ok (.aload_n 0, 1) := by decide +kernel
theorem dX16_init_1 : decode cX16_init 1 = .ok (.invokespecial 11, 3) := by decide +kernel
theorem dX16_init_4 : decode cX16_init 4 = .ok (.aload_n 0, 1) := by decide +kernel
theorem dX16_init_5 : decode cX16_init 5 = .ok (.new 17, 3) := by decide +kernel
theorem dX16_init_8 : decode cX16_init 8 = .ok (.dup, 1) := by decide +kernel
theorem dX16_init_9 : decode cX16_init 9 = .ok (.invokespecial 19, 3) := by decide +kernel
theorem dX16_init_12 : decode cX16_init 12 = .ok (.putfield 20, 3) := by decide +kernel
theorem dX16_init_15 : decode cX16_init 15 = .ok (.aload_n 0, 1) := by decide +kernel
theorem dX16_init_16 : decode cX16_init 16 = .ok (.new 17, 3) := by decide +kernel
theorem dX16_init_19 : decode cX16_init 19 = .ok (.dup, 1) := by decide +kernel
theorem dX16_init_20 : decode cX16_init 20 = .ok (.invokespecial 19, 3) := by decide +kernel
theorem dX16_init_23 : decode cX16_init 23 = .ok (.putfield 24, 3) := by decide +kernel
theorem dX16_init_26 : decode cX16_init 26 = .ok (.aload_n 0, 1) := by decide +kernel
theorem dX16_init_27 : decode cX16_init 27 = .ok (.new 17, 3) := by decide +kernel
theorem dX16_init_30 : decode cX16_init 30 = .ok (.dup, 1) := by decide +kernel
theorem dX16_init_31 : decode cX16_init 31 = .ok (.invokespecial 19, 3) := by decide +kernel
theorem dX16_init_34 : decode cX16_init 34 = .ok (.putfield 27, 3) := by decide +kernel
theorem dX16_init_37 : decode cX16_init 37 = .ok (.aload_n 0, 1) := by decide +kernel
theorem dX16_init_38 : decode cX16_init 38 = .ok (.new 17, 3) := by decide +kernel
theorem dX16_init_41 : decode cX16_init 41 = .ok (.dup, 1) := by decide +kernel
theorem dX16_init_42 : decode cX16_init 42 = .ok (.invokespecial 19, 3) := by decide +kernel
theorem dX16_init_45 : decode cX16_init 45 = .ok (.putfield 30, 3) := by decide +kernel
theorem dX16_init_48 : decode cX16_init 48 = .ok (.aload_n 0, 1) := by decide +kernel
theorem dX16_init_49 : decode cX16_init 49 = .ok (.iconst 0, 1) := by decide +kernel
theorem dX16_init_50 : decode cX16_init 50 = .ok (.putfield 33, 3) := by decide +kernel
theorem dX16_init_53 : decode cX16_init 53 = .ok (.return_, 1) := by decide +kernel
theorem dX16_input_0 : decode cX16_input 0 = .ok (.aload_n 0, 1) := by decide +kernel
theorem dX16_input_1 : decode cX16_input 1 = .ok (.aload_n 0, 1) := by decide +kernel
theorem dX16_input_2 : decode cX16_input 2 = .ok (.getfield 27, 3) := by decide +kernel
theorem dX16_input_5 : decode cX16_input 5 = .ok (.invokevirtual 37, 3) := by decide +kernel
theorem dX16_input_8 : decode cX16_input 8 = .ok (.bipush 12, 2) := by decide +kernel
theorem dX16_input_10 : decode cX16_input 10 = .ok (.if_icmp .ne 7, 3) := by decide +kernel
theorem dX16_input_17 : decode cX16_input 17 = .ok (.iconst 0, 1) := by decide +kernel
theorem dX16_input_18 : decode cX16_input 18 = .ok (.putfield 33, 3) := by decide +kernel
theorem dX16_input_21 : decode cX16_input 21 = .ok (.aload_n 0, 1) := by decide +kernel
theorem dX16_input_22 : decode cX16_input 22 = .ok (.getfield 33, 3) := by decide +kernel
theorem dX16_input_25 : decode cX16_input 25 = .ok (.ifCond .le 5, 3) := by decide +kernel
theorem dX16_input_30 : decode cX16_input 30 = .ok (.aload_n 0, 1) := by decide +kernel
theorem dX16_input_31 : decode cX16_input 31 = .ok (.getfield 27, 3) := by decide +kernel
theorem dX16_input_34 : decode cX16_input 34 = .ok (.iload_n 1, 1) := by decide +kernel
theorem dX16_input_35 : decode cX16_input 35 = .ok (.invokestatic 80, 3) := by decide +kernel
theorem dX16_input_38 : decode cX16_input 38 = .ok (.invokevirtual 84, 3) := by decide +kernel
theorem dX16_input_41 : decode cX16_input 41 = .ok (.pop, 1) := by decide +kernel
theorem dX16_input_42 : decode cX16_input 42 = .ok (.aload_n 0, 1) := by decide +kernel
theorem dX16_input_43 : decode cX16_input 43 = .ok (.getfield 27, 3) := by decide +kernel
theorem dX16_input_46 : decode cX16_input 46 = .ok (.invokevirtual 37, 3) := by decide +kernel
theorem dX16_input_49 : decode cX16_input 49 = .ok (.ireturn, 1) := by decide +kernel
theorem dX16_isGood_0 : decode cX16_isGood 0 = .ok (.aload_n 0, 1) := by decide +kernel
theorem dX16_isGood_1 : decode cX16_isGood 1 = .ok (.iload_n 1, 1) := by decide +kernel
theorem dX16_isGood_2 : decode cX16_isGood 2 = .ok (.iaload, 1) := by decide +kernel
theorem dX16_isGood_3 : decode cX16_isGood 3 = .ok (.bipush 16, 2) := by decide +kernel
theorem dX16_isGood_5 : decode cX16_isGood 5 = .ok (.idiv, 1) := by decide +kernel
theorem dX16_isGood_6 : decode cX16_isGood 6 = .ok (.istore_n 2, 1) := by decide +kernel
theorem dX16_isGood_7 : decode cX16_isGood 7 = .ok (.aload_n 0, 1) := by decide +kernel
theorem dX16_isGood_8 : decode cX16_isGood 8 = .ok (.iload_n 1, 1) := by decide +kernel
theorem dX16_isGood_9 : decode cX16_isGood 9 = .ok (.iaload, 1) := by decide +kernel
theorem dX16_isGood_10 : decode cX16_isGood 10 = .ok (.bipush 16, 2) := by decide +kernel
theorem dX16_isGood_12 : decode cX16_isGood 12 = .ok (.irem, 1) := by decide +kernel
theorem dX16_isGood_13 : decode cX16_isGood 13 = .ok (.istore_n 3, 1) := by decide +kernel
theorem dX16_isGood_14 : decode cX16_isGood 14 = .ok (.iload_n 2, 1) := by decide +kernel
theorem dX16_isGood_15 : decode cX16_isGood 15 = .ok (.bipush 11, 2) := by decide +kernel
theorem dX16_isGood_17 : decode cX16_isGood 17 = .ok (.if_icmp .eq 9, 3) := by decide +kernel
theorem dX16_isGood_20 : decode cX16_isGood 20 = .ok (.iload_n 2, 1) := by decide +kernel
theorem dX16_isGood_21 : decode cX16_isGood 21 = .ok (.bipush 12, 2) := by decide +kernel
theorem dX16_isGood_23 : decode cX16_isGood 23 = .ok (.if_icmp .ne 19, 3) := by decide +kernel
theorem dX16_isGood_42 : decode cX16_isGood 42 = .ok (.iload_n 2, 1) := by decide +kernel
theorem dX16_isGood_43 : decode cX16_isGood 43 = .ok (.bipush 8, 2) := by decide +kernel
theorem dX16_isGood_45 : decode cX16_isGood 45 = .ok (.if_icmp .ne 44, 3) := by decide +kernel
theorem dX16_isGood_48 : decode cX16_isGood 48 = .ok (.iload_n 3, 1) := by decide +kernel
theorem dX16_isGood_49 : decode cX16_isGood 49 = .ok (.bipush 8, 2) := by decide +kernel
theorem dX16_isGood_51 : decode cX16_isGood 51 = .ok (.bipush 11, 2) := by decide +kernel
theorem dX16_isGood_53 : decode cX16_isGood 53 = .ok (.invokestatic 3, 3) := by decide +kernel
theorem dX16_isGood_56 : decode cX16_isGood 56 = .ok (.ifCond .eq 33, 3) := by decide +kernel
theorem dX16_isGood_89 : decode cX16_isGood 89 = .ok (.iload_n 2, 1) := by decide +kernel
theorem dX16_isGood_90 : decode cX16_isGood 90 = .ok (.bipush 8, 2) := by decide +kernel
theorem dX16_isGood_92 : decode cX16_isGood 92 = .ok (.if_icmp .lt 27, 3) := by decide +kernel
theorem dX16_isGood_95 : decode cX16_isGood 95 = .ok (.iload_n 2, 1) := by decide +kernel
theorem dX16_isGood_96 : decode cX16_isGood 96 = .ok (.bipush 8, 2) := by decide +kernel
theorem dX16_isGood_98 : decode cX16_isGood 98 = .ok (.if_icmp .ne 9, 3) := by decide +kernel
theorem dX16_isGood_101 : decode cX16_isGood 101 = .ok (.iload_n 3, 1) := by decide +kernel
theorem dX16_isGood_102 : decode cX16_isGood 102 = .ok (.bipush 6, 2) := by decide +kernel
theorem dX16_isGood_104 : decode cX16_isGood 104 = .ok (.if_icmp .le 15, 3) := by decide +kernel
theorem dX16_isGood_119 : decode cX16_isGood 119 = .ok (.iconst 1, 1) := by decide +kernel
theorem dX16_isGood_120 : decode cX16_isGood 120 = .ok (.goto 4, 3) := by decide +kernel
theorem dX16_isGood_124 : decode cX16_isGood 124 = .ok (.ireturn, 1) := by decide +kernel
theorem dX16_isHead_0 : decode cX16_isHead 0 = .ok (.aload_n 0, 1) := by decide +kernel
theorem dX16_isHead_1 : decode cX16_isHead 1 = .ok (.iload_n 1, 1) := by decide +kernel
theorem dX16_isHead_2 : decode cX16_isHead 2 = .ok (.iload_n 2, 1) := by decide +kernel
theorem dX16_isHead_3 : decode cX16_isHead 3 = .ok (.invokevirtual 145, 3) := by decide +kernel
theorem dX16_isHead_6 : decode cX16_isHead 6 = .ok (.astore_n 3, 1) := by decide +kernel
theorem dX16_isHead_7 : decode cX16_isHead 7 = .ok (.aload_n 3, 1) := by decide +kernel
theorem dX16_isHead_8 : decode cX16_isHead 8 = .ok (.ifnull 15, 3) := by decide +kernel
theorem dX16_isHead_23 : decode cX16_isHead 23 = .ok (.iconst 0, 1) := by decide +kernel
theorem dX16_isHead_24 : decode cX16_isHead 24 = .ok (.ireturn, 1) := by decide +kernel
theorem dX16_isIdle_0 : decode cX16_isIdle 0 = .ok (.aload_n 0, 1) := by decide +kernel
theorem dX16_isIdle_1 : decode cX16_isIdle 1 = .ok (.iload_n 1, 1) := by decide +kernel
theorem dX16_isIdle_2 : decode cX16_isIdle 2 = .ok (.iload_n 2, 1) := by decide +kernel
theorem dX16_isIdle_3 : decode cX16_isIdle 3 = .ok (.invokevirtual 176, 3) := by decide +kernel
theorem dX16_isIdle_6 : decode cX16_isIdle 6 = .ok (.astore_n 3, 1) := by decide +kernel
theorem dX16_isIdle_7 : decode cX16_isIdle 7 = .ok (.aload_n 3, 1) := by decide +kernel
theorem dX16_isIdle_8 : decode cX16_isIdle 8 = .ok (.ifnull 15, 3) := by decide +kernel
theorem dX16_isIdle_23 : decode cX16_isIdle 23 = .ok (.iconst 0, 1) := by decide +kernel
theorem dX16_isIdle_24 : decode cX16_isIdle 24 = .ok (.ireturn, 1) := by decide +kernel
theorem dX16_isInDoubt_0 : decode cX16_isInDoubt 0 = .ok (.aload_n 0, 1) := by decide +kernel
theorem dX16_isInDoubt_1 : decode cX16_isInDoubt 1 = .ok (.iload_n 1, 1) := by decide +kernel
theorem dX16_isInDoubt_2 : decode cX16_isInDoubt 2 = .ok (.invokevirtual 88, 3) := by decide +kernel
theorem dX16_isInDoubt_5 : decode cX16_isInDoubt 5 = .ok (.ifCond .ne 18, 3) := by decide +kernel
theorem dX16_isInDoubt_23 : decode cX16_isInDoubt 23 = .ok (.iconst 0, 1) := by decide +kernel
theorem dX16_isInDoubt_24 : decode cX16_isInDoubt 24 = .ok (.ireturn, 1) := by decide +kernel
theorem dX16_isMeeting_0 : decode cX16_isMeeting 0 = .ok (.aload_n 0, 1) := by decide +kernel
theorem dX16_isMeeting_1 : decode cX16_isMeeting 1 = .ok (.iload_n 1, 1) := by decide +kernel
theorem dX16_isMeeting_2 : decode cX16_isMeeting 2 = .ok (.iload_n 2, 1) := by decide +kernel
theorem dX16_isMeeting_3 : decode cX16_isMeeting 3 = .ok (.invokevirtual 145, 3) := by decide +kernel
theorem dX16_isMeeting_6 : decode cX16_isMeeting 6 = .ok (.astore_n 3, 1) := by decide +kernel
theorem dX16_isMeeting_7 : decode cX16_isMeeting 7 = .ok (.aload_n 3, 1) := by decide +kernel
theorem dX16_isMeeting_8 : decode cX16_isMeeting 8 = .ok (.ifnull 15, 3) := by decide +kernel
theorem dX16_isMeeting_23 : decode cX16_isMeeting 23 = .ok (.iconst 0, 1) := by decide +kernel
theorem dX16_isMeeting_24 : decode cX16_isMeeting 24 = .ok (.ireturn, 1) := by decide +kernel
theorem dX16_isSound_0 : decode cX16_isSound 0 = .ok (.aload_n 0, 1) := by decide +kernel
theorem dX16_isSound_1 : decode cX16_isSound 1 = .ok (.iconst 0, 1) := by decide +kernel
theorem dX16_isSound_2 : decode cX16_isSound 2 = .ok (.putfield 33, 3) := by decide +kernel
theorem dX16_isSound_5 : decode cX16_isSound 5 = .ok (.iconst 1, 1) := by decide +kernel
theorem dX16_isSound_6 : decode cX16_isSound 6 = .ok (.ireturn, 1) := by decide +kernel
theorem dX16_isWhole_0 : decode cX16_isWhole 0 = .ok (.iload_n 1, 1) := by decide +kernel
theorem dX16_isWhole_1 : decode cX16_isWhole 1 = .ok (.iconst 0, 1) := by decide +kernel
theorem dX16_isWhole_2 : decode cX16_isWhole 2 = .ok (.aload_n 0, 1) := by decide +kernel
theorem dX16_isWhole_3 : decode cX16_isWhole 3 = .ok (.arraylength, 1) := by decide +kernel
theorem dX16_isWhole_4 : decode cX16_isWhole 4 = .ok (.iconst 1, 1) := by decide +kernel
theorem dX16_isWhole_5 : decode cX16_isWhole 5 = .ok (.isub, 1) := by decide +kernel
theorem dX16_isWhole_6 : decode cX16_isWhole 6 = .ok (.invokestatic 3, 3) := by decide +kernel
theorem dX16_isWhole_9 : decode cX16_isWhole 9 = .ok (.ifCond .eq 20, 3) := by decide +kernel
theorem dX16_isWhole_12 : decode cX16_isWhole 12 = .ok (.iload_n 1, 1) := by decide +kernel
theorem dX16_isWhole_13 : decode cX16_isWhole 13 = .ok (.aload_n 0, 1) := by decide +kernel
theorem dX16_isWhole_14 : decode cX16_isWhole 14 = .ok (.iload_n 1, 1) := by decide +kernel
theorem dX16_isWhole_15 : decode cX16_isWhole 15 = .ok (.iaload, 1) := by decide +kernel
theorem dX16_isWhole_16 : decode cX16_isWhole 16 = .ok (.invokestatic 7, 3) := by decide +kernel
theorem dX16_isWhole_19 : decode cX16_isWhole 19 = .ok (.iadd, 1) := by decide +kernel
theorem dX16_isWhole_20 : decode cX16_isWhole 20 = .ok (.aload_n 0, 1) := by decide +kernel
theorem dX16_isWhole_21 : decode cX16_isWhole 21 = .ok (.arraylength, 1) := by decide +kernel
theorem dX16_isWhole_22 : decode cX16_isWhole 22 = .ok (.if_icmp .gt 7, 3) := by decide +kernel
theorem dX16_isWhole_25 : decode cX16_isWhole 25 = .ok (.iconst 1, 1) := by decide +kernel
theorem dX16_isWhole_26 : decode cX16_isWhole 26 = .ok (.goto 4, 3) := by decide +kernel
theorem dX16_isWhole_29 : decode cX16_isWhole 29 = .ok (.iconst 0, 1) := by decide +kernel
theorem dX16_isWhole_30 : decode cX16_isWhole 30 = .ok (.ireturn, 1) := by decide +kernel
theorem dX16_keep_0 : decode cX16_keep 0 = .ok (.aload_n 0, 1) := by decide +kernel
theorem dX16_keep_1 : decode cX16_keep 1 = .ok (.iconst 0, 1) := by decide +kernel
theorem dX16_keep_2 : decode cX16_keep 2 = .ok (.putfield 33, 3) := by decide +kernel
theorem dX16_keep_5 : decode cX16_keep 5 = .ok (.aload_n 0, 1) := by decide +kernel
theorem dX16_keep_6 : decode cX16_keep 6 = .ok (.getfield 30, 3) := by decide +kernel
theorem dX16_keep_9 : decode cX16_keep 9 = .ok (.invokevirtual 96, 3) := by decide +kernel
theorem dX16_keep_12 : decode cX16_keep 12 = .ok (.aload_n 0, 1) := by decide +kernel
theorem dX16_keep_13 : decode cX16_keep 13 = .ok (.invokevirtual 59, 3) := by decide +kernel
theorem dX16_keep_16 : decode cX16_keep 16 = .ok (.getfield 63, 3) := by decide +kernel
theorem dX16_keep_19 : decode cX16_keep 19 = .ok (.invokevirtual 122, 3) := by decide +kernel
theorem dX16_keep_22 : decode cX16_keep 22 = .ok (.astore_n 1, 1) := by decide +kernel
theorem dX16_keep_23 : decode cX16_keep 23 = .ok (.aload_n 1, 1) := by decide +kernel
theorem dX16_keep_24 : decode cX16_keep 24 = .ok (.invokeinterface 126 1, 5) := by decide +kernel
theorem dX16_keep_29 : decode cX16_keep 29 = .ok (.ifCond .eq 35, 3) := by decide +kernel
theorem dX16_keep_64 : decode cX16_keep 64 = .ok (.aload_n 0, 1) := by decide +kernel
theorem dX16_keep_65 : decode cX16_keep 65 = .ok (.getfield 30, 3) := by decide +kernel
theorem dX16_keep_68 : decode cX16_keep 68 = .ok (.invokevirtual 37, 3) := by decide +kernel
theorem dX16_keep_71 : decode cX16_keep 71 = .ok (.ireturn, 1) := by decide +kernel
theorem dX16_kind_0 : decode cX16_kind 0 = .ok (.aload_n 0, 1) := by decide +kernel
theorem dX16_kind_1 : decode cX16_kind 1 = .ok (.iload_n 1, 1) := by decide +kernel
theorem dX16_kind_2 : decode cX16_kind 2 = .ok (.invokevirtual 88, 3) := by decide +kernel
theorem dX16_kind_5 : decode cX16_kind 5 = .ok (.ifCond .eq 8, 3) := by decide +kernel
theorem dX16_kind_8 : decode cX16_kind 8 = .ok (.bipush 32, 2) := by decide +kernel
theorem dX16_kind_10 : decode cX16_kind 10 = .ok (.goto 11, 3) := by decide +kernel
theorem dX16_kind_21 : decode cX16_kind 21 = .ok (.ireturn, 1) := by decide +kernel
theorem dX16_leaps_0 : decode cX16_leaps 0 = .ok (.aload_n 0, 1) := by decide +kernel
theorem dX16_leaps_1 : decode cX16_leaps 1 = .ok (.iload_n 1, 1) := by decide +kernel
theorem dX16_leaps_2 : decode cX16_leaps 2 = .ok (.invokevirtual 68, 3) := by decide +kernel
theorem dX16_leaps_5 : decode cX16_leaps 5 = .ok (.astore_n 2, 1) := by decide +kernel
theorem dX16_leaps_6 : decode cX16_leaps 6 = .ok (.aload_n 2, 1) := by decide +kernel
theorem dX16_leaps_7 : decode cX16_leaps 7 = .ok (.ifnonnull 7, 3) := by decide +kernel
theorem dX16_leaps_10 : decode cX16_leaps 10 = .ok (.iconst 0, 1) := by decide +kernel
theorem dX16_leaps_11 : decode cX16_leaps 11 = .ok (.goto 7, 3) := by decide +kernel
theorem dX16_leaps_18 : decode cX16_leaps 18 = .ok (.ireturn, 1) := by decide +kernel
theorem dX16_length_0 : decode cX16_length 0 = .ok (.aload_n 0, 1) := by decide +kernel
theorem dX16_length_1 : decode cX16_length 1 = .ok (.iload_n 1, 1) := by decide +kernel
theorem dX16_length_2 : decode cX16_length 2 = .ok (.invokevirtual 88, 3) := by decide +kernel
theorem dX16_length_5 : decode cX16_length 5 = .ok (.ifCond .eq 5, 3) := by decide +kernel
theorem dX16_length_8 : decode cX16_length 8 = .ok (.iconst 0, 1) := by decide +kernel
theorem dX16_length_9 : decode cX16_length 9 = .ok (.ireturn, 1) := by decide +kernel
theorem dX16_live_0 : decode cX16_live 0 = .ok (.aload_n 0, 1) := by decide +kernel
theorem dX16_live_1 : decode cX16_live 1 = .ok (.iload_n 1, 1) := by decide +kernel
theorem dX16_live_2 : decode cX16_live 2 = .ok (.iload_n 2, 1) := by decide +kernel
theorem dX16_live_3 : decode cX16_live 3 = .ok (.invokevirtual 176, 3) := by decide +kernel
theorem dX16_live_6 : decode cX16_live 6 = .ok (.astore_n 3, 1) := by decide +kernel
theorem dX16_live_7 : decode cX16_live 7 = .ok (.aload_n 3, 1) := by decide +kernel
theorem dX16_live_8 : decode cX16_live 8 = .ok (.ifnonnull 7, 3) := by decide +kernel
theorem dX16_live_11 : decode cX16_live 11 = .ok (.iconst 0, 1) := by decide +kernel
theorem dX16_live_12 : decode cX16_live 12 = .ok (.goto 8, 3) := by decide +kernel
theorem dX16_live_20 : decode cX16_live 20 = .ok (.ireturn, 1) := by decide +kernel
theorem dX16_match_0 : decode cX16_match 0 = .ok (.aload_n 0, 1) := by decide +kernel
theorem dX16_match_1 : decode cX16_match 1 = .ok (.iload_n 1, 1) := by decide +kernel
theorem dX16_match_2 : decode cX16_match 2 = .ok (.invokevirtual 68, 3) := by decide +kernel
theorem dX16_match_5 : decode cX16_match 5 = .ok (.astore_n 2, 1) := by decide +kernel
theorem dX16_match_6 : decode cX16_match 6 = .ok (.aload_n 2, 1) := by decide +kernel
theorem dX16_match_7 : decode cX16_match 7 = .ok (.ifnonnull 5, 3) := by decide +kernel
theorem dX16_match_10 : decode cX16_match 10 = .ok (.iconst 0, 1) := by decide +kernel
theorem dX16_match_11 : decode cX16_match 11 = .ok (.ireturn, 1) := by decide +kernel
theorem dX16_mayReturn_0 : decode cX16_mayReturn 0 = .ok (.aload_n 0, 1) := by decide +kernel
theorem dX16_mayReturn_1 : decode cX16_mayReturn 1 = .ok (.iload_n 1, 1) := by decide +kernel
theorem dX16_mayReturn_2 : decode cX16_mayReturn 2 = .ok (.invokevirtual 68, 3) := by decide +kernel
theorem dX16_mayReturn_5 : decode cX16_mayReturn 5 = .ok (.astore_n 2, 1) := by decide +kernel
theorem dX16_mayReturn_6 : decode cX16_mayReturn 6 = .ok (.aload_n 2, 1) := by decide +kernel
theorem dX16_mayReturn_7 : decode cX16_mayReturn 7 = .ok (.ifnull 14, 3) := by decide +kernel
theorem dX16_mayReturn_21 : decode cX16_mayReturn 21 = .ok (.iconst 0, 1) := by decide +kernel
theorem dX16_mayReturn_22 : decode cX16_mayReturn 22 = .ok (.ireturn, 1) := by decide +kernel
theorem dX16_meanBlock_0 : decode cX16_meanBlock 0 = .ok (.aload_n 0, 1) := by decide +kernel
theorem dX16_meanBlock_1 : decode cX16_meanBlock 1 = .ok (.iload_n 1, 1) := by decide +kernel
theorem dX16_meanBlock_2 : decode cX16_meanBlock 2 = .ok (.invokevirtual 68, 3) := by decide +kernel
theorem dX16_meanBlock_5 : decode cX16_meanBlock 5 = .ok (.astore_n 2, 1) := by decide +kernel
theorem dX16_meanBlock_6 : decode cX16_meanBlock 6 = .ok (.aload_n 2, 1) := by decide +kernel
theorem dX16_meanBlock_7 : decode cX16_meanBlock 7 = .ok (.ifnonnull 5, 3) := by decide +kernel
theorem dX16_meanBlock_10 : decode cX16_meanBlock 10 = .ok (.dconst 0, 1) := by decide +kernel
theorem dX16_meanBlock_11 : decode cX16_meanBlock 11 = .ok (.dreturn, 1) := by decide +kernel
theorem dX16_nearest_0 : decode cX16_nearest 0 = .ok (.aload_n 0, 1) := by decide +kernel
theorem dX16_nearest_1 : decode cX16_nearest 1 = .ok (.iload_n 1, 1) := by decide +kernel
theorem dX16_nearest_2 : decode cX16_nearest 2 = .ok (.iload_n 2, 1) := by decide +kernel
theorem dX16_nearest_3 : decode cX16_nearest 3 = .ok (.invokevirtual 145, 3) := by decide +kernel
theorem dX16_nearest_6 : decode cX16_nearest 6 = .ok (.astore_n 3, 1) := by decide +kernel
theorem dX16_nearest_7 : decode cX16_nearest 7 = .ok (.aload_n 3, 1) := by decide +kernel
theorem dX16_nearest_8 : decode cX16_nearest 8 = .ok (.ifnonnull 5, 3) := by decide +kernel
theorem dX16_nearest_11 : decode cX16_nearest 11 = .ok (.iconst 0, 1) := by decide +kernel
theorem dX16_nearest_12 : decode cX16_nearest 12 = .ok (.ireturn, 1) := by decide +kernel
theorem dX16_next_0 : decode cX16_next 0 = .ok (.aload_n 0, 1) := by decide +kernel
theorem dX16_next_1 : decode cX16_next 1 = .ok (.iload_n 1, 1) := by decide +kernel
theorem dX16_next_2 : decode cX16_next 2 = .ok (.iload_n 2, 1) := by decide +kernel
theorem dX16_next_3 : decode cX16_next 3 = .ok (.invokevirtual 145, 3) := by decide +kernel
theorem dX16_next_6 : decode cX16_next 6 = .ok (.astore 4, 2) := by decide +kernel
theorem dX16_next_8 : decode cX16_next 8 = .ok (.aload 4, 2) := by decide +kernel
theorem dX16_next_10 : decode cX16_next 10 = .ok (.ifnonnull 5, 3) := by decide +kernel
theorem dX16_next_13 : decode cX16_next 13 = .ok (.iconst 0, 1) := by decide +kernel
theorem dX16_next_14 : decode cX16_next 14 = .ok (.ireturn, 1) := by decide +kernel
theorem dX16_nexts_0 : decode cX16_nexts 0 = .ok (.aload_n 0, 1) := by decide +kernel
theorem dX16_nexts_1 : decode cX16_nexts 1 = .ok (.iload_n 1, 1) := by decide +kernel
theorem dX16_nexts_2 : decode cX16_nexts 2 = .ok (.iload_n 2, 1) := by decide +kernel
theorem dX16_nexts_3 : decode cX16_nexts 3 = .ok (.invokevirtual 145, 3) := by decide +kernel
theorem dX16_nexts_6 : decode cX16_nexts 6 = .ok (.astore_n 3, 1) := by decide +kernel
theorem dX16_nexts_7 : decode cX16_nexts 7 = .ok (.aload_n 3, 1) := by decide +kernel
theorem dX16_nexts_8 : decode cX16_nexts 8 = .ok (.ifnonnull 7, 3) := by decide +kernel
theorem dX16_nexts_11 : decode cX16_nexts 11 = .ok (.iconst 0, 1) := by decide +kernel
theorem dX16_nexts_12 : decode cX16_nexts 12 = .ok (.goto 15, 3) := by decide +kernel
theorem dX16_nexts_27 : decode cX16_nexts 27 = .ok (.ireturn, 1) := by decide +kernel
theorem dX16_noByte_0 : decode cX16_noByte 0 = .ok (.aload_n 0, 1) := by decide +kernel
theorem dX16_noByte_1 : decode cX16_noByte 1 = .ok (.iload_n 1, 1) := by decide +kernel
theorem dX16_noByte_2 : decode cX16_noByte 2 = .ok (.iconst 0, 1) := by decide +kernel
theorem dX16_noByte_3 : decode cX16_noByte 3 = .ok (.aload_n 0, 1) := by decide +kernel
theorem dX16_noByte_4 : decode cX16_noByte 4 = .ok (.getfield 20, 3) := by decide +kernel
theorem dX16_noByte_7 : decode cX16_noByte 7 = .ok (.invokevirtual 37, 3) := by decide +kernel
theorem dX16_noByte_10 : decode cX16_noByte 10 = .ok (.iconst 1, 1) := by decide +kernel
theorem dX16_noByte_11 : decode cX16_noByte 11 = .ok (.isub, 1) := by decide +kernel
theorem dX16_noByte_12 : decode cX16_noByte 12 = .ok (.invokestatic 3, 3) := by decide +kernel
theorem dX16_noByte_15 : decode cX16_noByte 15 = .ok (.ifCond .eq 7, 3) := by decide +kernel
theorem dX16_noByte_22 : decode cX16_noByte 22 = .ok (.iconst 1, 1) := by decide +kernel
theorem dX16_noByte_23 : decode cX16_noByte 23 = .ok (.putfield 33, 3) := by decide +kernel
theorem dX16_noByte_26 : decode cX16_noByte 26 = .ok (.aload_n 0, 1) := by decide +kernel
theorem dX16_noByte_27 : decode cX16_noByte 27 = .ok (.getfield 33, 3) := by decide +kernel
theorem dX16_noByte_30 : decode cX16_noByte 30 = .ok (.ifCond .le 7, 3) := by decide +kernel
theorem dX16_noByte_33 : decode cX16_noByte 33 = .ok (.iconst 1, 1) := by decide +kernel
theorem dX16_noByte_34 : decode cX16_noByte 34 = .ok (.goto 4, 3) := by decide +kernel
theorem dX16_noByte_38 : decode cX16_noByte 38 = .ok (.ireturn, 1) := by decide +kernel
theorem dX16_order_0 : decode cX16_order 0 = .ok (.aload_n 0, 1) := by decide +kernel
theorem dX16_order_1 : decode cX16_order 1 = .ok (.iload_n 1, 1) := by decide +kernel
theorem dX16_order_2 : decode cX16_order 2 = .ok (.iload_n 2, 1) := by decide +kernel
theorem dX16_order_3 : decode cX16_order 3 = .ok (.invokevirtual 145, 3) := by decide +kernel
theorem dX16_order_6 : decode cX16_order 6 = .ok (.astore_n 3, 1) := by decide +kernel
theorem dX16_order_7 : decode cX16_order 7 = .ok (.aload_n 3, 1) := by decide +kernel
theorem dX16_order_8 : decode cX16_order 8 = .ok (.ifnonnull 7, 3) := by decide +kernel
theorem dX16_order_11 : decode cX16_order 11 = .ok (.iconst 0, 1) := by decide +kernel
theorem dX16_order_12 : decode cX16_order 12 = .ok (.goto 9, 3) := by decide +kernel
theorem dX16_order_21 : decode cX16_order 21 = .ok (.ireturn, 1) := by decide +kernel
theorem dX16_output_0 : decode cX16_output 0 = .ok (.aload_n 0, 1) := by decide +kernel
theorem dX16_output_1 : decode cX16_output 1 = .ok (.aload_n 0, 1) := by decide +kernel
theorem dX16_output_2 : decode cX16_output 2 = .ok (.getfield 218, 3) := by decide +kernel
theorem dX16_output_5 : decode cX16_output 5 = .ok (.ifnull 27, 3) := by decide +kernel
theorem dX16_output_32 : decode cX16_output 32 = .ok (.iconst 1, 1) := by decide +kernel
theorem dX16_output_33 : decode cX16_output 33 = .ok (.putfield 33, 3) := by decide +kernel
theorem dX16_output_36 : decode cX16_output 36 = .ok (.aload_n 0, 1) := by decide +kernel
theorem dX16_output_37 : decode cX16_output 37 = .ok (.getfield 33, 3) := by decide +kernel
theorem dX16_output_40 : decode cX16_output 40 = .ok (.ifCond .le 7, 3) := by decide +kernel
theorem dX16_output_43 : decode cX16_output 43 = .ok (.iconst 0, 1) := by decide +kernel
theorem dX16_output_44 : decode cX16_output 44 = .ok (.goto 20, 3) := by decide +kernel
theorem dX16_output_64 : decode cX16_output 64 = .ok (.ireturn, 1) := by decide +kernel
theorem dX16_outputs_0 : decode cX16_outputs 0 = .ok (.aload_n 0, 1) := by decide +kernel
theorem dX16_outputs_1 : decode cX16_outputs 1 = .ok (.iconst 0, 1) := by decide +kernel
theorem dX16_outputs_2 : decode cX16_outputs 2 = .ok (.putfield 33, 3) := by decide +kernel
theorem dX16_outputs_5 : decode cX16_outputs 5 = .ok (.aload_n 0, 1) := by decide +kernel
theorem dX16_outputs_6 : decode cX16_outputs 6 = .ok (.getfield 218, 3) := by decide +kernel
theorem dX16_outputs_9 : decode cX16_outputs 9 = .ok (.ifnonnull 7, 3) := by decide +kernel
theorem dX16_outputs_12 : decode cX16_outputs 12 = .ok (.iconst 0, 1) := by decide +kernel
theorem dX16_outputs_13 : decode cX16_outputs 13 = .ok (.goto 13, 3) := by decide +kernel
theorem dX16_outputs_26 : decode cX16_outputs 26 = .ok (.ireturn, 1) := by decide +kernel
theorem dX16_read_0 : decode cX16_read 0 = .ok (.new 50, 3) := by decide +kernel
theorem dX16_read_3 : decode cX16_read 3 = .ok (.dup, 1) := by decide +kernel
theorem dX16_read_4 : decode cX16_read 4 = .ok (.aload_n 0, 1) := by decide +kernel
theorem dX16_read_5 : decode cX16_read 5 = .ok (.getfield 20, 3) := by decide +kernel
theorem dX16_read_8 : decode cX16_read 8 = .ok (.invokestatic 52, 3) := by decide +kernel
theorem dX16_read_11 : decode cX16_read 11 = .ok (.aload_n 0, 1) := by decide +kernel
theorem dX16_read_12 : decode cX16_read 12 = .ok (.getfield 24, 3) := by decide +kernel
theorem dX16_read_15 : decode cX16_read 15 = .ok (.invokespecial 56, 3) := by decide +kernel
theorem dX16_read_18 : decode cX16_read 18 = .ok (.areturn, 1) := by decide +kernel
theorem dX16_rowOf_0 : decode cX16_rowOf 0 = .ok (.aload_n 0, 1) := by decide +kernel
theorem dX16_rowOf_1 : decode cX16_rowOf 1 = .ok (.invokevirtual 37, 3) := by decide +kernel
theorem dX16_rowOf_4 : decode cX16_rowOf 4 = .ok (.newarray .int, 2) := by decide +kernel
theorem dX16_rowOf_6 : decode cX16_rowOf 6 = .ok (.astore_n 1, 1) := by decide +kernel
theorem dX16_rowOf_7 : decode cX16_rowOf 7 = .ok (.iconst 0, 1) := by decide +kernel
theorem dX16_rowOf_8 : decode cX16_rowOf 8 = .ok (.istore_n 2, 1) := by decide +kernel
theorem dX16_rowOf_9 : decode cX16_rowOf 9 = .ok (.iload_n 2, 1) := by decide +kernel
theorem dX16_rowOf_10 : decode cX16_rowOf 10 = .ok (.aload_n 1, 1) := by decide +kernel
theorem dX16_rowOf_11 : decode cX16_rowOf 11 = .ok (.arraylength, 1) := by decide +kernel
theorem dX16_rowOf_12 : decode cX16_rowOf 12 = .ok (.if_icmp .ge 23, 3) := by decide +kernel
theorem dX16_rowOf_15 : decode cX16_rowOf 15 = .ok (.aload_n 1, 1) := by decide +kernel
theorem dX16_rowOf_16 : decode cX16_rowOf 16 = .ok (.iload_n 2, 1) := by decide +kernel
theorem dX16_rowOf_17 : decode cX16_rowOf 17 = .ok (.aload_n 0, 1) := by decide +kernel
theorem dX16_rowOf_18 : decode cX16_rowOf 18 = .ok (.iload_n 2, 1) := by decide +kernel
theorem dX16_rowOf_19 : decode cX16_rowOf 19 = .ok (.invokevirtual 41, 3) := by decide +kernel
theorem dX16_rowOf_22 : decode cX16_rowOf 22 = .ok (.checkcast 45, 3) := by decide +kernel
theorem dX16_rowOf_25 : decode cX16_rowOf 25 = .ok (.invokevirtual 47, 3) := by decide +kernel
theorem dX16_rowOf_28 : decode cX16_rowOf 28 = .ok (.iastore, 1) := by decide +kernel
theorem dX16_rowOf_29 : decode cX16_rowOf 29 = .ok (.iinc 2 1, 3) := by decide +kernel
theorem dX16_rowOf_32 : decode cX16_rowOf 32 = .ok (.goto (-23), 3) := by decide +kernel
theorem dX16_rowOf_35 : decode cX16_rowOf 35 = .ok (.aload_n 1, 1) := by decide +kernel
theorem dX16_rowOf_36 : decode cX16_rowOf 36 = .ok (.areturn, 1) := by decide +kernel
theorem dX16_run_0 : decode cX16_run 0 = .ok (.aload_n 0, 1) := by decide +kernel
theorem dX16_run_1 : decode cX16_run 1 = .ok (.iload_n 2, 1) := by decide +kernel
theorem dX16_run_2 : decode cX16_run 2 = .ok (.iconst 0, 1) := by decide +kernel
theorem dX16_run_3 : decode cX16_run 3 = .ok (.sipush 2000, 3) := by decide +kernel
theorem dX16_run_6 : decode cX16_run 6 = .ok (.invokestatic 3, 3) := by decide +kernel
theorem dX16_run_9 : decode cX16_run 9 = .ok (.ifCond .eq 7, 3) := by decide +kernel
theorem dX16_run_12 : decode cX16_run 12 = .ok (.iconst 0, 1) := by decide +kernel
theorem dX16_run_13 : decode cX16_run 13 = .ok (.goto 4, 3) := by decide +kernel
theorem dX16_run_16 : decode cX16_run 16 = .ok (.iconst 1, 1) := by decide +kernel
theorem dX16_run_17 : decode cX16_run 17 = .ok (.putfield 33, 3) := by decide +kernel
theorem dX16_run_20 : decode cX16_run 20 = .ok (.aload_n 0, 1) := by decide +kernel
theorem dX16_run_21 : decode cX16_run 21 = .ok (.getfield 33, 3) := by decide +kernel
theorem dX16_run_24 : decode cX16_run 24 = .ok (.ifCond .le 6, 3) := by decide +kernel
theorem dX16_run_27 : decode cX16_run 27 = .ok (.bipush 32, 2) := by decide +kernel
theorem dX16_run_29 : decode cX16_run 29 = .ok (.ireturn, 1) := by decide +kernel
theorem dX16_run_30 : decode cX16_run 30 = .ok (.iload_n 1, 1) := by decide +kernel
theorem dX16_run_31 : decode cX16_run 31 = .ok (.ifCond .eq 10, 3) := by decide +kernel
theorem dX16_run_34 : decode cX16_run 34 = .ok (.aload_n 0, 1) := by decide +kernel
theorem dX16_run_35 : decode cX16_run 35 = .ok (.invokevirtual 209, 3) := by decide +kernel
theorem dX16_run_38 : decode cX16_run 38 = .ok (.goto 10, 3) := by decide +kernel
theorem dX16_run_41 : decode cX16_run 41 = .ok (.aload_n 0, 1) := by decide +kernel
theorem dX16_run_42 : decode cX16_run 42 = .ok (.getfield 20, 3) := by decide +kernel
theorem dX16_run_45 : decode cX16_run 45 = .ok (.invokestatic 52, 3) := by decide +kernel
theorem dX16_run_48 : decode cX16_run 48 = .ok (.astore_n 3, 1) := by decide +kernel
theorem dX16_run_49 : decode cX16_run 49 = .ok (.aload_n 0, 1) := by decide +kernel
theorem dX16_run_50 : decode cX16_run 50 = .ok (.aload_n 3, 1) := by decide +kernel
theorem dX16_run_51 : decode cX16_run 51 = .ok (.arraylength, 1) := by decide +kernel
theorem dX16_run_52 : decode cX16_run 52 = .ok (.sipush 240, 3) := by decide +kernel
theorem dX16_run_55 : decode cX16_run 55 = .ok (.if_icmp .le 7, 3) := by decide +kernel
theorem dX16_run_62 : decode cX16_run 62 = .ok (.iconst 0, 1) := by decide +kernel
theorem dX16_run_63 : decode cX16_run 63 = .ok (.putfield 33, 3) := by decide +kernel
theorem dX16_run_66 : decode cX16_run 66 = .ok (.aload_n 0, 1) := by decide +kernel
theorem dX16_run_67 : decode cX16_run 67 = .ok (.getfield 33, 3) := by decide +kernel
theorem dX16_run_70 : decode cX16_run 70 = .ok (.ifCond .le 6, 3) := by decide +kernel
theorem dX16_run_76 : decode cX16_run 76 = .ok (.aload_n 0, 1) := by decide +kernel
theorem dX16_run_77 : decode cX16_run 77 = .ok (.new 213, 3) := by decide +kernel
theorem dX16_run_80 : decode cX16_run 80 = .ok (.dup, 1) := by decide +kernel
theorem dX16_run_81 : decode cX16_run 81 = .ok (.aload_n 3, 1) := by decide +kernel
theorem dX16_run_82 : decode cX16_run 82 = .ok (.aload_n 0, 1) := by decide +kernel
theorem dX16_run_83 : decode cX16_run 83 = .ok (.getfield 27, 3) := by decide +kernel
theorem dX16_run_86 : decode cX16_run 86 = .ok (.iload_n 2, 1) := by decide +kernel
theorem dX16_run_87 : decode cX16_run 87 = .ok (.invokespecial 215, 3) := by decide +kernel
theorem dX16_run_90 : decode cX16_run 90 = .ok (.putfield 218, 3) := by decide +kernel
theorem dX16_run_93 : decode cX16_run 93 = .ok (.aload_n 0, 1) := by decide +kernel
theorem dX16_run_94 : decode cX16_run 94 = .ok (.getfield 218, 3) := by decide +kernel
theorem dX16_run_97 : decode cX16_run 97 = .ok (.getfield 222, 3) := by decide +kernel
theorem dX16_run_100 : decode cX16_run 100 = .ok (.ireturn, 1) := by decide +kernel
theorem dX16_set_0 : decode cX16_set 0 = .ok (.aload_n 0, 1) := by decide +kernel
theorem dX16_set_1 : decode cX16_set 1 = .ok (.iload_n 1, 1) := by decide +kernel
theorem dX16_set_2 : decode cX16_set 2 = .ok (.invokevirtual 88, 3) := by decide +kernel
theorem dX16_set_5 : decode cX16_set 5 = .ok (.ifCond .eq 5, 3) := by decide +kernel
theorem dX16_set_8 : decode cX16_set 8 = .ok (.iconst 0, 1) := by decide +kernel
theorem dX16_set_9 : decode cX16_set 9 = .ok (.ireturn, 1) := by decide +kernel
theorem dX16_sharers_0 : decode cX16_sharers 0 = .ok (.aload_n 0, 1) := by decide +kernel
theorem dX16_sharers_1 : decode cX16_sharers 1 = .ok (.iload_n 1, 1) := by decide +kernel
theorem dX16_sharers_2 : decode cX16_sharers 2 = .ok (.invokevirtual 88, 3) := by decide +kernel
theorem dX16_sharers_5 : decode cX16_sharers 5 = .ok (.ifCond .eq 5, 3) := by decide +kernel
theorem dX16_sharers_8 : decode cX16_sharers 8 = .ok (.iconst 0, 1) := by decide +kernel
theorem dX16_sharers_9 : decode cX16_sharers 9 = .ok (.ireturn, 1) := by decide +kernel
theorem dX16_sign_0 : decode cX16_sign 0 = .ok (.aload_n 0, 1) := by decide +kernel
theorem dX16_sign_1 : decode cX16_sign 1 = .ok (.iload_n 1, 1) := by decide +kernel
theorem dX16_sign_2 : decode cX16_sign 2 = .ok (.invokevirtual 68, 3) := by decide +kernel
theorem dX16_sign_5 : decode cX16_sign 5 = .ok (.astore_n 3, 1) := by decide +kernel
theorem dX16_sign_6 : decode cX16_sign 6 = .ok (.aload_n 3, 1) := by decide +kernel
theorem dX16_sign_7 : decode cX16_sign 7 = .ok (.ifnonnull 6, 3) := by decide +kernel
theorem dX16_sign_10 : decode cX16_sign 10 = .ok (.bipush 32, 2) := by decide +kernel
theorem dX16_sign_12 : decode cX16_sign 12 = .ok (.ireturn, 1) := by decide +kernel
theorem dX16_size_0 : decode cX16_size 0 = .ok (.aload_n 0, 1) := by decide +kernel
theorem dX16_size_1 : decode cX16_size 1 = .ok (.iload_n 1, 1) := by decide +kernel
theorem dX16_size_2 : decode cX16_size 2 = .ok (.iload_n 2, 1) := by decide +kernel
theorem dX16_size_3 : decode cX16_size 3 = .ok (.invokevirtual 145, 3) := by decide +kernel
theorem dX16_size_6 : decode cX16_size 6 = .ok (.astore_n 3, 1) := by decide +kernel
theorem dX16_size_7 : decode cX16_size 7 = .ok (.aload_n 3, 1) := by decide +kernel
theorem dX16_size_8 : decode cX16_size 8 = .ok (.ifnonnull 7, 3) := by decide +kernel
theorem dX16_size_11 : decode cX16_size 11 = .ok (.iconst 0, 1) := by decide +kernel
theorem dX16_size_12 : decode cX16_size 12 = .ok (.goto 8, 3) := by decide +kernel
theorem dX16_size_20 : decode cX16_size 20 = .ok (.ireturn, 1) := by decide +kernel
theorem dX16_source_0 : decode cX16_source 0 = .ok (.aload_n 0, 1) := by decide +kernel
theorem dX16_source_1 : decode cX16_source 1 = .ok (.iload_n 1, 1) := by decide +kernel
theorem dX16_source_2 : decode cX16_source 2 = .ok (.invokevirtual 68, 3) := by decide +kernel
theorem dX16_source_5 : decode cX16_source 5 = .ok (.astore_n 2, 1) := by decide +kernel
theorem dX16_source_6 : decode cX16_source 6 = .ok (.aload_n 2, 1) := by decide +kernel
theorem dX16_source_7 : decode cX16_source 7 = .ok (.ifnonnull 7, 3) := by decide +kernel
theorem dX16_source_10 : decode cX16_source 10 = .ok (.iconst 0, 1) := by decide +kernel
theorem dX16_source_11 : decode cX16_source 11 = .ok (.goto 14, 3) := by decide +kernel
theorem dX16_source_25 : decode cX16_source 25 = .ok (.ireturn, 1) := by decide +kernel
theorem dX16_steps_0 : decode cX16_steps 0 = .ok (.aload_n 0, 1) := by decide +kernel
theorem dX16_steps_1 : decode cX16_steps 1 = .ok (.iconst 0, 1) := by decide +kernel
theorem dX16_steps_2 : decode cX16_steps 2 = .ok (.putfield 33, 3) := by decide +kernel
theorem dX16_steps_5 : decode cX16_steps 5 = .ok (.aload_n 0, 1) := by decide +kernel
theorem dX16_steps_6 : decode cX16_steps 6 = .ok (.getfield 218, 3) := by decide +kernel
theorem dX16_steps_9 : decode cX16_steps 9 = .ok (.ifnonnull 7, 3) := by decide +kernel
theorem dX16_steps_12 : decode cX16_steps 12 = .ok (.iconst 0, 1) := by decide +kernel
theorem dX16_steps_13 : decode cX16_steps 13 = .ok (.goto 10, 3) := by decide +kernel
theorem dX16_steps_23 : decode cX16_steps 23 = .ok (.ireturn, 1) := by decide +kernel
theorem dX16_thrown_0 : decode cX16_thrown 0 = .ok (.aload_n 0, 1) := by decide +kernel
theorem dX16_thrown_1 : decode cX16_thrown 1 = .ok (.getfield 33, 3) := by decide +kernel
theorem dX16_thrown_4 : decode cX16_thrown 4 = .ok (.ireturn, 1) := by decide +kernel
theorem dX16_tidy_0 : decode cX16_tidy 0 = .ok (.aload_n 0, 1) := by decide +kernel
theorem dX16_tidy_1 : decode cX16_tidy 1 = .ok (.iconst 0, 1) := by decide +kernel
theorem dX16_tidy_2 : decode cX16_tidy 2 = .ok (.putfield 33, 3) := by decide +kernel
theorem dX16_tidy_5 : decode cX16_tidy 5 = .ok (.aload_n 0, 1) := by decide +kernel
theorem dX16_tidy_6 : decode cX16_tidy 6 = .ok (.getfield 185, 3) := by decide +kernel
theorem dX16_tidy_9 : decode cX16_tidy 9 = .ok (.istore_n 2, 1) := by decide +kernel
theorem dX16_tidy_10 : decode cX16_tidy 10 = .ok (.aload_n 0, 1) := by decide +kernel
theorem dX16_tidy_11 : decode cX16_tidy 11 = .ok (.iload_n 1, 1) := by decide +kernel
theorem dX16_tidy_12 : decode cX16_tidy 12 = .ok (.putfield 185, 3) := by decide +kernel
theorem dX16_tidy_15 : decode cX16_tidy 15 = .ok (.iload_n 2, 1) := by decide +kernel
theorem dX16_tidy_16 : decode cX16_tidy 16 = .ok (.ireturn, 1) := by decide +kernel
theorem dX16_told_0 : decode cX16_told 0 = .ok (.iload_n 0, 1) := by decide +kernel
theorem dX16_told_1 : decode cX16_told 1 = .ok (.bipush 16, 2) := by decide +kernel
theorem dX16_told_3 : decode cX16_told 3 = .ok (.idiv, 1) := by decide +kernel
theorem dX16_told_4 : decode cX16_told 4 = .ok (.istore_n 1, 1) := by decide +kernel
theorem dX16_told_5 : decode cX16_told 5 = .ok (.iload_n 0, 1) := by decide +kernel
theorem dX16_told_6 : decode cX16_told 6 = .ok (.bipush 16, 2) := by decide +kernel
theorem dX16_told_8 : decode cX16_told 8 = .ok (.irem, 1) := by decide +kernel
theorem dX16_told_9 : decode cX16_told 9 = .ok (.istore_n 2, 1) := by decide +kernel
theorem dX16_told_10 : decode cX16_told 10 = .ok (.iload_n 1, 1) := by decide +kernel
theorem dX16_told_11 : decode cX16_told 11 = .ok (.bipush 8, 2) := by decide +kernel
theorem dX16_told_13 : decode cX16_told 13 = .ok (.if_icmp .ne 31, 3) := by decide +kernel
theorem dX16_told_16 : decode cX16_told 16 = .ok (.iload_n 2, 1) := by decide +kernel
theorem dX16_told_17 : decode cX16_told 17 = .ok (.bipush 8, 2) := by decide +kernel
theorem dX16_told_19 : decode cX16_told 19 = .ok (.bipush 11, 2) := by decide +kernel
theorem dX16_told_21 : decode cX16_told 21 = .ok (.invokestatic 3, 3) := by decide +kernel
theorem dX16_told_24 : decode cX16_told 24 = .ok (.ifCond .eq 7, 3) := by decide +kernel
theorem dX16_told_31 : decode cX16_told 31 = .ok (.iload_n 2, 1) := by decide +kernel
theorem dX16_told_32 : decode cX16_told 32 = .ok (.iconst 5, 1) := by decide +kernel
theorem dX16_told_33 : decode cX16_told 33 = .ok (.if_icmp .gt 7, 3) := by decide +kernel
theorem dX16_told_36 : decode cX16_told 36 = .ok (.iconst 2, 1) := by decide +kernel
theorem dX16_told_37 : decode cX16_told 37 = .ok (.goto 29, 3) := by decide +kernel
theorem dX16_told_66 : decode cX16_told 66 = .ok (.ireturn, 1) := by decide +kernel
theorem dX16_type_0 : decode cX16_type 0 = .ok (.aload_n 0, 1) := by decide +kernel
theorem dX16_type_1 : decode cX16_type 1 = .ok (.iload_n 1, 1) := by decide +kernel
theorem dX16_type_2 : decode cX16_type 2 = .ok (.iconst 0, 1) := by decide +kernel
theorem dX16_type_3 : decode cX16_type 3 = .ok (.sipush 255, 3) := by decide +kernel
theorem dX16_type_6 : decode cX16_type 6 = .ok (.invokestatic 3, 3) := by decide +kernel
theorem dX16_type_9 : decode cX16_type 9 = .ok (.ifCond .ne 7, 3) := by decide +kernel
theorem dX16_type_12 : decode cX16_type 12 = .ok (.iconst 1, 1) := by decide +kernel
theorem dX16_type_13 : decode cX16_type 13 = .ok (.goto 20, 3) := by decide +kernel
theorem dX16_type_16 : decode cX16_type 16 = .ok (.aload_n 0, 1) := by decide +kernel
theorem dX16_type_17 : decode cX16_type 17 = .ok (.getfield 20, 3) := by decide +kernel
theorem dX16_type_20 : decode cX16_type 20 = .ok (.invokevirtual 37, 3) := by decide +kernel
theorem dX16_type_23 : decode cX16_type 23 = .ok (.bipush 120, 2) := by decide +kernel
theorem dX16_type_25 : decode cX16_type 25 = .ok (.if_icmp .ne 7, 3) := by decide +kernel
theorem dX16_type_32 : decode cX16_type 32 = .ok (.iconst 0, 1) := by decide +kernel
theorem dX16_type_33 : decode cX16_type 33 = .ok (.putfield 33, 3) := by decide +kernel
theorem dX16_type_36 : decode cX16_type 36 = .ok (.aload_n 0, 1) := by decide +kernel
theorem dX16_type_37 : decode cX16_type 37 = .ok (.getfield 33, 3) := by decide +kernel
theorem dX16_type_40 : decode cX16_type 40 = .ok (.ifCond .le 5, 3) := by decide +kernel
theorem dX16_type_43 : decode cX16_type 43 = .ok (.iconst 0, 1) := by decide +kernel
theorem dX16_type_44 : decode cX16_type 44 = .ok (.ireturn, 1) := by decide +kernel
theorem dX16_type_45 : decode cX16_type 45 = .ok (.aload_n 0, 1) := by decide +kernel
theorem dX16_type_46 : decode cX16_type 46 = .ok (.getfield 20, 3) := by decide +kernel
theorem dX16_type_49 : decode cX16_type 49 = .ok (.iload_n 1, 1) := by decide +kernel
theorem dX16_type_50 : decode cX16_type 50 = .ok (.invokestatic 80, 3) := by decide +kernel
theorem dX16_type_53 : decode cX16_type 53 = .ok (.invokevirtual 84, 3) := by decide +kernel
theorem dX16_type_56 : decode cX16_type 56 = .ok (.pop, 1) := by decide +kernel
theorem dX16_type_57 : decode cX16_type 57 = .ok (.aload_n 0, 1) := by decide +kernel
theorem dX16_type_58 : decode cX16_type 58 = .ok (.getfield 20, 3) := by decide +kernel
theorem dX16_type_61 : decode cX16_type 61 = .ok (.invokevirtual 37, 3) := by decide +kernel
theorem dX16_type_64 : decode cX16_type 64 = .ok (.ireturn, 1) := by decide +kernel
theorem dX16_wipe_0 : decode cX16_wipe 0 = .ok (.aload_n 0, 1) := by decide +kernel
theorem dX16_wipe_1 : decode cX16_wipe 1 = .ok (.iconst 0, 1) := by decide +kernel
theorem dX16_wipe_2 : decode cX16_wipe 2 = .ok (.putfield 33, 3) := by decide +kernel
theorem dX16_wipe_5 : decode cX16_wipe 5 = .ok (.aload_n 0, 1) := by decide +kernel
theorem dX16_wipe_6 : decode cX16_wipe 6 = .ok (.getfield 20, 3) := by decide +kernel
theorem dX16_wipe_9 : decode cX16_wipe 9 = .ok (.invokevirtual 37, 3) := by decide +kernel
theorem dX16_wipe_12 : decode cX16_wipe 12 = .ok (.istore_n 1, 1) := by decide +kernel
theorem dX16_wipe_13 : decode cX16_wipe 13 = .ok (.aload_n 0, 1) := by decide +kernel
theorem dX16_wipe_14 : decode cX16_wipe 14 = .ok (.getfield 20, 3) := by decide +kernel
theorem dX16_wipe_17 : decode cX16_wipe 17 = .ok (.invokevirtual 96, 3) := by decide +kernel
theorem dX16_wipe_20 : decode cX16_wipe 20 = .ok (.aload_n 0, 1) := by decide +kernel
theorem dX16_wipe_21 : decode cX16_wipe 21 = .ok (.getfield 24, 3) := by decide +kernel
theorem dX16_wipe_24 : decode cX16_wipe 24 = .ok (.invokevirtual 96, 3) := by decide +kernel
theorem dX16_wipe_27 : decode cX16_wipe 27 = .ok (.iload_n 1, 1) := by decide +kernel
theorem dX16_wipe_28 : decode cX16_wipe 28 = .ok (.ireturn, 1) := by decide +kernel
theorem dX16_withBlock_0 : decode cX16_withBlock 0 = .ok (.aload_n 0, 1) := by decide +kernel
theorem dX16_withBlock_1 : decode cX16_withBlock 1 = .ok (.iload_n 1, 1) := by decide +kernel
theorem dX16_withBlock_2 : decode cX16_withBlock 2 = .ok (.invokevirtual 68, 3) := by decide +kernel
theorem dX16_withBlock_5 : decode cX16_withBlock 5 = .ok (.astore_n 3, 1) := by decide +kernel
theorem dX16_withBlock_6 : decode cX16_withBlock 6 = .ok (.aload_n 3, 1) := by decide +kernel
theorem dX16_withBlock_7 : decode cX16_withBlock 7 = .ok (.ifnull 27, 3) := by decide +kernel
theorem dX16_withBlock_34 : decode cX16_withBlock 34 = .ok (.aload_n 0, 1) := by decide +kernel
theorem dX16_withBlock_35 : decode cX16_withBlock 35 = .ok (.getfield 33, 3) := by decide +kernel
theorem dX16_withBlock_38 : decode cX16_withBlock 38 = .ok (.ifCond .le 7, 3) := by decide +kernel
theorem dX16_withBlock_41 : decode cX16_withBlock 41 = .ok (.aconst_null, 1) := by decide +kernel
theorem dX16_withBlock_42 : decode cX16_withBlock 42 = .ok (.goto 4, 3) := by decide +kernel
theorem dX16_withBlock_46 : decode cX16_withBlock 46 = .ok (.areturn, 1) := by decide +kernel
theorem dX16_withPlace_0 : decode cX16_withPlace 0 = .ok (.aload_n 0, 1) := by decide +kernel
theorem dX16_withPlace_1 : decode cX16_withPlace 1 = .ok (.iload_n 1, 1) := by decide +kernel
theorem dX16_withPlace_2 : decode cX16_withPlace 2 = .ok (.invokevirtual 68, 3) := by decide +kernel
theorem dX16_withPlace_5 : decode cX16_withPlace 5 = .ok (.astore_n 3, 1) := by decide +kernel
theorem dX16_withPlace_6 : decode cX16_withPlace 6 = .ok (.aload_n 3, 1) := by decide +kernel
theorem dX16_withPlace_7 : decode cX16_withPlace 7 = .ok (.ifnull 36, 3) := by decide +kernel
theorem dX16_withPlace_43 : decode cX16_withPlace 43 = .ok (.aload_n 0, 1) := by decide +kernel
theorem dX16_withPlace_44 : decode cX16_withPlace 44 = .ok (.getfield 33, 3) := by decide +kernel
theorem dX16_withPlace_47 : decode cX16_withPlace 47 = .ok (.ifCond .le 7, 3) := by decide +kernel
theorem dX16_withPlace_50 : decode cX16_withPlace 50 = .ok (.aconst_null, 1) := by decide +kernel
theorem dX16_withPlace_51 : decode cX16_withPlace 51 = .ok (.goto 4, 3) := by decide +kernel
theorem dX16_withPlace_55 : decode cX16_withPlace 55 = .ok (.areturn, 1) := by decide +kernel
theorem dX1_count_0 : decode cX1_count 0 = .ok (.aload_n 0, 1) := by decide +kernel
theorem dX1_count_1 : decode cX1_count 1 = .ok (.getfield 47, 3) := by decide +kernel
theorem dX1_count_4 : decode cX1_count 4 = .ok (.ireturn, 1) := by decide +kernel
theorem dX1_finish_0 : decode cX1_finish 0 = .ok (.iconst 0, 1) := by decide +kernel
theorem dX1_finish_1 : decode cX1_finish 1 = .ok (.istore_n 1, 1) := by decide +kernel
theorem dX1_finish_2 : decode cX1_finish 2 = .ok (.iload_n 1, 1) := by decide +kernel
theorem dX1_finish_3 : decode cX1_finish 3 = .ok (.aload_n 0, 1) := by decide +kernel
theorem dX1_finish_4 : decode cX1_finish 4 = .ok (.getfield 44, 3) := by decide +kernel
theorem dX1_finish_7 : decode cX1_finish 7 = .ok (.if_icmp .ge 63, 3) := by decide +kernel
theorem dX1_finish_70 : decode cX1_finish 70 = .ok (.aload_n 0, 1) := by decide +kernel
theorem dX1_finish_71 : decode cX1_finish 71 = .ok (.getfield 12, 3) := by decide +kernel
theorem dX1_finish_74 : decode cX1_finish 74 = .ok (.aload_n 0, 1) := by decide +kernel
theorem dX1_finish_75 : decode cX1_finish 75 = .ok (.getfield 47, 3) := by decide +kernel
theorem dX1_finish_78 : decode cX1_finish 78 = .ok (.invokevirtual 98, 3) := by decide +kernel
theorem dX1_finish_81 : decode cX1_finish 81 = .ok (.aload_n 0, 1) := by decide +kernel
theorem dX1_finish_82 : decode cX1_finish 82 = .ok (.getfield 12, 3) := by decide +kernel
theorem dX1_finish_85 : decode cX1_finish 85 = .ok (.invokevirtual 101, 3) := by decide +kernel
theorem dX1_finish_88 : decode cX1_finish 88 = .ok (.return_, 1) := by decide +kernel
theorem dX1_init_0 : decode cX1_init 0 = .ok (.aload_n 0, 1) := by decide +kernel
theorem dX1_init_1 : decode cX1_init 1 = .ok (.invokespecial 3, 3) := by decide +kernel
theorem dX1_init_4 : decode cX1_init 4 = .ok (.aload_n 0, 1) := by decide +kernel
theorem dX1_init_5 : decode cX1_init 5 = .ok (.new 9, 3) := by decide +kernel
theorem dX1_init_8 : decode cX1_init 8 = .ok (.dup, 1) := by decide +kernel
theorem dX1_init_9 : decode cX1_init 9 = .ok (.invokespecial 11, 3) := by decide +kernel
theorem dX1_init_12 : decode cX1_init 12 = .ok (.putfield 12, 3) := by decide +kernel
theorem dX1_init_15 : decode cX1_init 15 = .ok (.aload_n 0, 1) := by decide +kernel
theorem dX1_init_16 : decode cX1_init 16 = .ok (.bipush 120, 2) := by decide +kernel
theorem dX1_init_18 : decode cX1_init 18 = .ok (.newarray .int, 2) := by decide +kernel
theorem dX1_init_20 : decode cX1_init 20 = .ok (.putfield 18, 3) := by decide +kernel
theorem dX1_init_23 : decode cX1_init 23 = .ok (.aload_n 0, 1) := by decide +kernel
theorem dX1_init_24 : decode cX1_init 24 = .ok (.bipush 120, 2) := by decide +kernel
theorem dX1_init_26 : decode cX1_init 26 = .ok (.newarray .int, 2) := by decide +kernel
theorem dX1_init_28 : decode cX1_init 28 = .ok (.putfield 22, 3) := by decide +kernel
theorem dX1_init_31 : decode cX1_init 31 = .ok (.aload_n 0, 1) := by decide +kernel
theorem dX1_init_32 : decode cX1_init 32 = .ok (.sipush 240, 3) := by decide +kernel
theorem dX1_init_35 : decode cX1_init 35 = .ok (.newarray .int, 2) := by decide +kernel
theorem dX1_init_37 : decode cX1_init 37 = .ok (.putfield 25, 3) := by decide +kernel
theorem dX1_init_40 : decode cX1_init 40 = .ok (.aload_n 0, 1) := by decide +kernel
theorem dX1_init_41 : decode cX1_init 41 = .ok (.sipush 240, 3) := by decide +kernel
theorem dX1_init_44 : decode cX1_init 44 = .ok (.newarray .int, 2) := by decide +kernel
theorem dX1_init_46 : decode cX1_init 46 = .ok (.putfield 28, 3) := by decide +kernel
theorem dX1_init_49 : decode cX1_init 49 = .ok (.aload_n 0, 1) := by decide +kernel
theorem dX1_init_50 : decode cX1_init 50 = .ok (.sipush 240, 3) := by decide +kernel
theorem dX1_init_53 : decode cX1_init 53 = .ok (.newarray .int, 2) := by decide +kernel
theorem dX1_init_55 : decode cX1_init 55 = .ok (.putfield 31, 3) := by decide +kernel
theorem dX1_init_58 : decode cX1_init 58 = .ok (.aload_n 0, 1) := by decide +kernel
theorem dX1_init_59 : decode cX1_init 59 = .ok (.sipush 240, 3) := by decide +kernel
theorem dX1_init_62 : decode cX1_init 62 = .ok (.newarray .int, 2) := by decide +kernel
theorem dX1_init_64 : decode cX1_init 64 = .ok (.putfield 34, 3) := by decide +kernel
theorem dX1_init_67 : decode cX1_init 67 = .ok (.aload_n 0, 1) := by decide +kernel
theorem dX1_init_68 : decode cX1_init 68 = .ok (.bipush 120, 2) := by decide +kernel
theorem dX1_init_70 : decode cX1_init 70 = .ok (.newarray .int, 2) := by decide +kernel
theorem dX1_init_72 : decode cX1_init 72 = .ok (.putfield 37, 3) := by decide +kernel
theorem dX1_init_75 : decode cX1_init 75 = .ok (.aload_n 0, 1) := by decide +kernel
theorem dX1_init_76 : decode cX1_init 76 = .ok (.iconst 0, 1) := by decide +kernel
theorem dX1_init_77 : decode cX1_init 77 = .ok (.putfield 40, 3) := by decide +kernel
theorem dX1_init_80 : decode cX1_init 80 = .ok (.aload_n 0, 1) := by decide +kernel
theorem dX1_init_81 : decode cX1_init 81 = .ok (.iconst 0, 1) := by decide +kernel
theorem dX1_init_82 : decode cX1_init 82 = .ok (.putfield 44, 3) := by decide +kernel
theorem dX1_init_85 : decode cX1_init 85 = .ok (.aload_n 0, 1) := by decide +kernel
theorem dX1_init_86 : decode cX1_init 86 = .ok (.iconst 0, 1) := by decide +kernel
theorem dX1_init_87 : decode cX1_init 87 = .ok (.putfield 47, 3) := by decide +kernel
theorem dX1_init_90 : decode cX1_init 90 = .ok (.aload_n 0, 1) := by decide +kernel
theorem dX1_init_91 : decode cX1_init 91 = .ok (.iconst 0, 1) := by decide +kernel
theorem dX1_init_92 : decode cX1_init 92 = .ok (.putfield 50, 3) := by decide +kernel
theorem dX1_init_95 : decode cX1_init 95 = .ok (.aload_n 0, 1) := by decide +kernel
theorem dX1_init_96 : decode cX1_init 96 = .ok (.aload_n 1, 1) := by decide +kernel
theorem dX1_init_97 : decode cX1_init 97 = .ok (.putfield 54, 3) := by decide +kernel
theorem dX1_init_100 : decode cX1_init 100 = .ok (.aload_n 0, 1) := by decide +kernel
theorem dX1_init_101 : decode cX1_init 101 = .ok (.aload_n 2, 1) := by decide +kernel
theorem dX1_init_102 : decode cX1_init 102 = .ok (.putfield 57, 3) := by decide +kernel
theorem dX1_init_105 : decode cX1_init 105 = .ok (.aload_n 0, 1) := by decide +kernel
theorem dX1_init_106 : decode cX1_init 106 = .ok (.aload 4, 2) := by decide +kernel
theorem dX1_init_108 : decode cX1_init 108 = .ok (.putfield 61, 3) := by decide +kernel
theorem dX1_init_111 : decode cX1_init 111 = .ok (.aload_n 0, 1) := by decide +kernel
theorem dX1_init_112 : decode cX1_init 112 = .ok (.new 65, 3) := by decide +kernel
theorem dX1_init_115 : decode cX1_init 115 = .ok (.dup, 1) := by decide +kernel
theorem dX1_init_116 : decode cX1_init 116 = .ok (.aload_n 1, 1) := by decide +kernel
theorem dX1_init_117 : decode cX1_init 117 = .ok (.aload_n 2, 1) := by decide +kernel
theorem dX1_init_118 : decode cX1_init 118 = .ok (.aload_n 3, 1) := by decide +kernel
theorem dX1_init_119 : decode cX1_init 119 = .ok (.iconst 1, 1) := by decide +kernel
theorem dX1_init_120 : decode cX1_init 120 = .ok (.invokespecial 67, 3) := by decide +kernel
theorem dX1_init_123 : decode cX1_init 123 = .ok (.putfield 70, 3) := by decide +kernel
theorem dX1_init_126 : decode cX1_init 126 = .ok (.return_, 1) := by decide +kernel
theorem dX1_put_0 : decode cX1_put 0 = .ok (.aload_n 0, 1) := by decide +kernel
theorem dX1_put_1 : decode cX1_put 1 = .ok (.getfield 12, 3) := by decide +kernel
theorem dX1_put_4 : decode cX1_put 4 = .ok (.aload_n 0, 1) := by decide +kernel
theorem dX1_put_5 : decode cX1_put 5 = .ok (.getfield 47, 3) := by decide +kernel
theorem dX1_put_8 : decode cX1_put 8 = .ok (.iload_n 1, 1) := by decide +kernel
theorem dX1_put_9 : decode cX1_put 9 = .ok (.invokevirtual 95, 3) := by decide +kernel
theorem dX1_put_12 : decode cX1_put 12 = .ok (.aload_n 0, 1) := by decide +kernel
theorem dX1_put_13 : decode cX1_put 13 = .ok (.dup, 1) := by decide +kernel
theorem dX1_put_14 : decode cX1_put 14 = .ok (.getfield 47, 3) := by decide +kernel
theorem dX1_put_17 : decode cX1_put 17 = .ok (.iconst 1, 1) := by decide +kernel
theorem dX1_put_18 : decode cX1_put 18 = .ok (.iadd, 1) := by decide +kernel
theorem dX1_put_19 : decode cX1_put 19 = .ok (.putfield 47, 3) := by decide +kernel
theorem dX1_put_22 : decode cX1_put 22 = .ok (.return_, 1) := by decide +kernel
theorem dX1_result_0 : decode cX1_result 0 = .ok (.aload_n 0, 1) := by decide +kernel
theorem dX1_result_1 : decode cX1_result 1 = .ok (.getfield 12, 3) := by decide +kernel
theorem dX1_result_4 : decode cX1_result 4 = .ok (.areturn, 1) := by decide +kernel
theorem dX1_start_0 : decode cX1_start 0 = .ok (.aload_n 0, 1) := by decide +kernel
theorem dX1_start_1 : decode cX1_start 1 = .ok (.iconst 0, 1) := by decide +kernel
theorem dX1_start_2 : decode cX1_start 2 = .ok (.putfield 47, 3) := by decide +kernel
theorem dX1_start_5 : decode cX1_start 5 = .ok (.aload_n 0, 1) := by decide +kernel
theorem dX1_start_6 : decode cX1_start 6 = .ok (.iconst 0, 1) := by decide +kernel
theorem dX1_start_7 : decode cX1_start 7 = .ok (.putfield 44, 3) := by decide +kernel
theorem dX1_start_10 : decode cX1_start 10 = .ok (.iconst 0, 1) := by decide +kernel
theorem dX1_start_11 : decode cX1_start 11 = .ok (.istore_n 2, 1) := by decide +kernel
theorem dX1_start_12 : decode cX1_start 12 = .ok (.iload_n 2, 1) := by decide +kernel
theorem dX1_start_13 : decode cX1_start 13 = .ok (.aload_n 0, 1) := by decide +kernel
theorem dX1_start_14 : decode cX1_start 14 = .ok (.getfield 37, 3) := by decide +kernel
theorem dX1_start_17 : decode cX1_start 17 = .ok (.arraylength, 1) := by decide +kernel
theorem dX1_start_18 : decode cX1_start 18 = .ok (.if_icmp .ge 18, 3) := by decide +kernel
theorem dX1_start_21 : decode cX1_start 21 = .ok (.aload_n 0, 1) := by decide +kernel
theorem dX1_start_22 : decode cX1_start 22 = .ok (.getfield 37, 3) := by decide +kernel
theorem dX1_start_25 : decode cX1_start 25 = .ok (.iload_n 2, 1) := by decide +kernel
theorem dX1_start_26 : decode cX1_start 26 = .ok (.sipush 255, 3) := by decide +kernel
theorem dX1_start_29 : decode cX1_start 29 = .ok (.iastore, 1) := by decide +kernel
theorem dX1_start_30 : decode cX1_start 30 = .ok (.iinc 2 1, 3) := by decide +kernel
theorem dX1_start_33 : decode cX1_start 33 = .ok (.goto (-21), 3) := by decide +kernel
theorem dX1_start_36 : decode cX1_start 36 = .ok (.iload_n 1, 1) := by decide +kernel
theorem dX1_start_37 : decode cX1_start 37 = .ok (.ifCond .ne 17, 3) := by decide +kernel
theorem dX1_start_40 : decode cX1_start 40 = .ok (.aload_n 0, 1) := by decide +kernel
theorem dX1_start_41 : decode cX1_start 41 = .ok (.sipush 128, 3) := by decide +kernel
theorem dX1_start_44 : decode cX1_start 44 = .ok (.invokevirtual 74, 3) := by decide +kernel
theorem dX1_start_47 : decode cX1_start 47 = .ok (.aload_n 0, 1) := by decide +kernel
theorem dX1_start_48 : decode cX1_start 48 = .ok (.sipush 255, 3) := by decide +kernel
theorem dX1_start_51 : decode cX1_start 51 = .ok (.invokevirtual 74, 3) := by decide +kernel
theorem dX1_start_54 : decode cX1_start 54 = .ok (.return_, 1) := by decide +kernel
theorem dX2_at_0 : decode cX2_at 0 = .ok (.iload_n 1, 1) := by decide +kernel
theorem dX2_at_1 : decode cX2_at 1 = .ok (.ifCond .lt 29, 3) := by decide +kernel
theorem dX2_at_4 : decode cX2_at 4 = .ok (.iload_n 1, 1) := by decide +kernel
theorem dX2_at_5 : decode cX2_at 5 = .ok (.aload_n 0, 1) := by decide +kernel
theorem dX2_at_6 : decode cX2_at 6 = .ok (.getfield 18, 3) := by decide +kernel
theorem dX2_at_9 : decode cX2_at 9 = .ok (.if_icmp .ge 21, 3) := by decide +kernel
theorem dX2_at_12 : decode cX2_at 12 = .ok (.iload_n 1, 1) := by decide +kernel
theorem dX2_at_13 : decode cX2_at 13 = .ok (.aload_n 0, 1) := by decide +kernel
theorem dX2_at_14 : decode cX2_at 14 = .ok (.getfield 9, 3) := by decide +kernel
theorem dX2_at_17 : decode cX2_at 17 = .ok (.arraylength, 1) := by decide +kernel
theorem dX2_at_18 : decode cX2_at 18 = .ok (.if_icmp .ge 12, 3) := by decide +kernel
theorem dX2_at_21 : decode cX2_at 21 = .ok (.aload_n 0, 1) := by decide +kernel
theorem dX2_at_22 : decode cX2_at 22 = .ok (.getfield 9, 3) := by decide +kernel
theorem dX2_at_25 : decode cX2_at 25 = .ok (.iload_n 1, 1) := by decide +kernel
theorem dX2_at_26 : decode cX2_at 26 = .ok (.iaload, 1) := by decide +kernel
theorem dX2_at_27 : decode cX2_at 27 = .ok (.goto 4, 3) := by decide +kernel
theorem dX2_at_31 : decode cX2_at 31 = .ok (.ireturn, 1) := by decide +kernel
theorem dX2_count_0 : decode cX2_count 0 = .ok (.aload_n 0, 1) := by decide +kernel
theorem dX2_count_1 : decode cX2_count 1 = .ok (.getfield 18, 3) := by decide +kernel
theorem dX2_count_4 : decode cX2_count 4 = .ok (.ireturn, 1) := by decide +kernel
theorem dX2_cut_0 : decode cX2_cut 0 = .ok (.aload_n 0, 1) := by decide +kernel
theorem dX2_cut_1 : decode cX2_cut 1 = .ok (.iload_n 1, 1) := by decide +kernel
theorem dX2_cut_2 : decode cX2_cut 2 = .ok (.ifCond .ge 7, 3) := by decide +kernel
theorem dX2_cut_9 : decode cX2_cut 9 = .ok (.iload_n 1, 1) := by decide +kernel
theorem dX2_cut_10 : decode cX2_cut 10 = .ok (.aload_n 0, 1) := by decide +kernel
theorem dX2_cut_11 : decode cX2_cut 11 = .ok (.getfield 9, 3) := by decide +kernel
theorem dX2_cut_14 : decode cX2_cut 14 = .ok (.arraylength, 1) := by decide +kernel
theorem dX2_cut_15 : decode cX2_cut 15 = .ok (.invokestatic 22, 3) := by decide +kernel
theorem dX2_cut_18 : decode cX2_cut 18 = .ok (.putfield 18, 3) := by decide +kernel
theorem dX2_cut_21 : decode cX2_cut 21 = .ok (.return_, 1) := by decide +kernel
theorem dX2_decode_0 : decode cX2_decode 0 = .ok (.iconst 0, 1) := by decide +kernel
theorem dX2_decode_1 : decode cX2_decode 1 = .ok (.istore_n 1, 1) := by decide +kernel
theorem dX2_decode_2 : decode cX2_decode 2 = .ok (.iload_n 1, 1) := by decide +kernel
theorem dX2_decode_3 : decode cX2_decode 3 = .ok (.aload_n 0, 1) := by decide +kernel
theorem dX2_decode_4 : decode cX2_decode 4 = .ok (.getfield 18, 3) := by decide +kernel
theorem dX2_decode_7 : decode cX2_decode 7 = .ok (.if_icmp .ge 29, 3) := by decide +kernel
theorem dX2_decode_10 : decode cX2_decode 10 = .ok (.iload_n 1, 1) := by decide +kernel
theorem dX2_decode_11 : decode cX2_decode 11 = .ok (.aload_n 0, 1) := by decide +kernel
theorem dX2_decode_12 : decode cX2_decode 12 = .ok (.getfield 15, 3) := by decide +kernel
theorem dX2_decode_15 : decode cX2_decode 15 = .ok (.arraylength, 1) := by decide +kernel
theorem dX2_decode_16 : decode cX2_decode 16 = .ok (.if_icmp .ge 20, 3) := by decide +kernel
theorem dX2_decode_19 : decode cX2_decode 19 = .ok (.aload_n 0, 1) := by decide +kernel
theorem dX2_decode_20 : decode cX2_decode 20 = .ok (.getfield 15, 3) := by decide +kernel
theorem dX2_decode_23 : decode cX2_decode 23 = .ok (.iload_n 1, 1) := by decide +kernel
theorem dX2_decode_24 : decode cX2_decode 24 = .ok (.aload_n 0, 1) := by decide +kernel
theorem dX2_decode_25 : decode cX2_decode 25 = .ok (.iload_n 1, 1) := by decide +kernel
theorem dX2_decode_26 : decode cX2_decode 26 = .ok (.invokevirtual 35, 3) := by decide +kernel
theorem dX2_decode_29 : decode cX2_decode 29 = .ok (.iastore, 1) := by decide +kernel
theorem dX2_decode_30 : decode cX2_decode 30 = .ok (.iinc 1 1, 3) := by decide +kernel
theorem dX2_decode_33 : decode cX2_decode 33 = .ok (.goto (-31), 3) := by decide +kernel
theorem dX2_decode_36 : decode cX2_decode 36 = .ok (.return_, 1) := by decide +kernel
theorem dX2_find_0 : decode cX2_find 0 = .ok (.aload_n 0, 1) := by decide +kernel
theorem dX2_find_1 : decode cX2_find 1 = .ok (.iload_n 1, 1) := by decide +kernel
theorem dX2_find_2 : decode cX2_find 2 = .ok (.invokevirtual 31, 3) := by decide +kernel
theorem dX2_find_5 : decode cX2_find 5 = .ok (.invokestatic 38, 3) := by decide +kernel
theorem dX2_find_8 : decode cX2_find 8 = .ok (.istore_n 2, 1) := by decide +kernel
theorem dX2_find_9 : decode cX2_find 9 = .ok (.iload_n 1, 1) := by decide +kernel
theorem dX2_find_10 : decode cX2_find 10 = .ok (.iload_n 2, 1) := by decide +kernel
theorem dX2_find_11 : decode cX2_find 11 = .ok (.invokestatic 41, 3) := by decide +kernel
theorem dX2_find_14 : decode cX2_find 14 = .ok (.iadd, 1) := by decide +kernel
theorem dX2_find_15 : decode cX2_find 15 = .ok (.aload_n 0, 1) := by decide +kernel
theorem dX2_find_16 : decode cX2_find 16 = .ok (.getfield 18, 3) := by decide +kernel
theorem dX2_find_19 : decode cX2_find 19 = .ok (.if_icmp .le 6, 3) := by decide +kernel
theorem dX2_find_25 : decode cX2_find 25 = .ok (.iload_n 2, 1) := by decide +kernel
theorem dX2_find_26 : decode cX2_find 26 = .ok (.bipush 11, 2) := by decide +kernel
theorem dX2_find_28 : decode cX2_find 28 = .ok (.if_icmp .eq 9, 3) := by decide +kernel
theorem dX2_find_31 : decode cX2_find 31 = .ok (.iload_n 2, 1) := by decide +kernel
theorem dX2_find_32 : decode cX2_find 32 = .ok (.bipush 12, 2) := by decide +kernel
theorem dX2_find_34 : decode cX2_find 34 = .ok (.if_icmp .ne 18, 3) := by decide +kernel
theorem dX2_find_52 : decode cX2_find 52 = .ok (.iload_n 2, 1) := by decide +kernel
theorem dX2_find_53 : decode cX2_find 53 = .ok (.bipush 17, 2) := by decide +kernel
theorem dX2_find_55 : decode cX2_find 55 = .ok (.if_icmp .ne 27, 3) := by decide +kernel
theorem dX2_find_82 : decode cX2_find 82 = .ok (.iload_n 2, 1) := by decide +kernel
theorem dX2_find_83 : decode cX2_find 83 = .ok (.ireturn, 1) := by decide +kernel
theorem dX2_init_0 : decode cX2_init 0 = .ok (.aload_n 0, 1) := by decide +kernel
theorem dX2_init_1 : decode cX2_init 1 = .ok (.invokespecial 3, 3) := by decide +kernel
theorem dX2_init_4 : decode cX2_init 4 = .ok (.aload_n 0, 1) := by decide +kernel
theorem dX2_init_5 : decode cX2_init 5 = .ok (.sipush 240, 3) := by decide +kernel
theorem dX2_init_8 : decode cX2_init 8 = .ok (.newarray .int, 2) := by decide +kernel
theorem dX2_init_10 : decode cX2_init 10 = .ok (.putfield 9, 3) := by decide +kernel
theorem dX2_init_13 : decode cX2_init 13 = .ok (.aload_n 0, 1) := by decide +kernel
theorem dX2_init_14 : decode cX2_init 14 = .ok (.sipush 240, 3) := by decide +kernel
theorem dX2_init_17 : decode cX2_init 17 = .ok (.newarray .int, 2) := by decide +kernel
theorem dX2_init_19 : decode cX2_init 19 = .ok (.putfield 15, 3) := by decide +kernel
theorem dX2_init_22 : decode cX2_init 22 = .ok (.aload_n 0, 1) := by decide +kernel
theorem dX2_init_23 : decode cX2_init 23 = .ok (.iconst 0, 1) := by decide +kernel
theorem dX2_init_24 : decode cX2_init 24 = .ok (.putfield 18, 3) := by decide +kernel
theorem dX2_init_27 : decode cX2_init 27 = .ok (.return_, 1) := by decide +kernel
theorem dX2_minor_0 : decode cX2_minor 0 = .ok (.aload_n 0, 1) := by decide +kernel
theorem dX2_minor_1 : decode cX2_minor 1 = .ok (.iload_n 1, 1) := by decide +kernel
theorem dX2_minor_2 : decode cX2_minor 2 = .ok (.invokevirtual 31, 3) := by decide +kernel
theorem dX2_minor_5 : decode cX2_minor 5 = .ok (.iconst 3, 1) := by decide +kernel
theorem dX2_minor_6 : decode cX2_minor 6 = .ok (.iand, 1) := by decide +kernel
theorem dX2_minor_7 : decode cX2_minor 7 = .ok (.ireturn, 1) := by decide +kernel
theorem dX2_named_0 : decode cX2_named 0 = .ok (.iload_n 0, 1) := by decide +kernel
theorem dX2_named_1 : decode cX2_named 1 = .ok (.iconst 4, 1) := by decide +kernel
theorem dX2_named_2 : decode cX2_named 2 = .ok (.ishr, 1) := by decide +kernel
theorem dX2_named_3 : decode cX2_named 3 = .ok (.istore_n 1, 1) := by decide +kernel
theorem dX2_named_4 : decode cX2_named 4 = .ok (.iload_n 0, 1) := by decide +kernel
theorem dX2_named_5 : decode cX2_named 5 = .ok (.bipush 15, 2) := by decide +kernel
theorem dX2_named_7 : decode cX2_named 7 = .ok (.iand, 1) := by decide +kernel
theorem dX2_named_8 : decode cX2_named 8 = .ok (.istore_n 2, 1) := by decide +kernel
theorem dX2_named_9 : decode cX2_named 9 = .ok (.iload_n 1, 1) := by decide +kernel
theorem dX2_named_10 : decode cX2_named 10 = .ok (.bipush 8, 2) := by decide +kernel
theorem dX2_named_12 : decode cX2_named 12 = .ok (.if_icmp .ne 22, 3) := by decide +kernel
theorem dX2_named_15 : decode cX2_named 15 = .ok (.iload_n 2, 1) := by decide +kernel
theorem dX2_named_16 : decode cX2_named 16 = .ok (.getstatic 48, 3) := by decide +kernel
theorem dX2_named_19 : decode cX2_named 19 = .ok (.arraylength, 1) := by decide +kernel
theorem dX2_named_20 : decode cX2_named 20 = .ok (.if_icmp .ge 11, 3) := by decide +kernel
theorem dX2_named_23 : decode cX2_named 23 = .ok (.getstatic 48, 3) := by decide +kernel
theorem dX2_named_26 : decode cX2_named 26 = .ok (.iload_n 2, 1) := by decide +kernel
theorem dX2_named_27 : decode cX2_named 27 = .ok (.iaload, 1) := by decide +kernel
theorem dX2_named_28 : decode cX2_named 28 = .ok (.goto 5, 3) := by decide +kernel
theorem dX2_named_33 : decode cX2_named 33 = .ok (.ireturn, 1) := by decide +kernel
theorem dX2_named_34 : decode cX2_named 34 = .ok (.iload_n 1, 1) := by decide +kernel
theorem dX2_named_35 : decode cX2_named 35 = .ok (.ifCond .lt 19, 3) := by decide +kernel
theorem dX2_named_38 : decode cX2_named 38 = .ok (.iload_n 1, 1) := by decide +kernel
theorem dX2_named_39 : decode cX2_named 39 = .ok (.getstatic 51, 3) := by decide +kernel
theorem dX2_named_42 : decode cX2_named 42 = .ok (.arraylength, 1) := by decide +kernel
theorem dX2_named_43 : decode cX2_named 43 = .ok (.if_icmp .ge 11, 3) := by decide +kernel
theorem dX2_named_46 : decode cX2_named 46 = .ok (.getstatic 51, 3) := by decide +kernel
theorem dX2_named_49 : decode cX2_named 49 = .ok (.iload_n 1, 1) := by decide +kernel
theorem dX2_named_50 : decode cX2_named 50 = .ok (.iaload, 1) := by decide +kernel
theorem dX2_named_51 : decode cX2_named 51 = .ok (.goto 5, 3) := by decide +kernel
theorem dX2_named_56 : decode cX2_named 56 = .ok (.ireturn, 1) := by decide +kernel
theorem dX2_op_0 : decode cX2_op 0 = .ok (.iload_n 1, 1) := by decide +kernel
theorem dX2_op_1 : decode cX2_op 1 = .ok (.ifCond .lt 29, 3) := by decide +kernel
theorem dX2_op_4 : decode cX2_op 4 = .ok (.iload_n 1, 1) := by decide +kernel
theorem dX2_op_5 : decode cX2_op 5 = .ok (.aload_n 0, 1) := by decide +kernel
theorem dX2_op_6 : decode cX2_op 6 = .ok (.getfield 18, 3) := by decide +kernel
theorem dX2_op_9 : decode cX2_op 9 = .ok (.if_icmp .ge 21, 3) := by decide +kernel
theorem dX2_op_12 : decode cX2_op 12 = .ok (.iload_n 1, 1) := by decide +kernel
theorem dX2_op_13 : decode cX2_op 13 = .ok (.aload_n 0, 1) := by decide +kernel
theorem dX2_op_14 : decode cX2_op 14 = .ok (.getfield 15, 3) := by decide +kernel
theorem dX2_op_17 : decode cX2_op 17 = .ok (.arraylength, 1) := by decide +kernel
theorem dX2_op_18 : decode cX2_op 18 = .ok (.if_icmp .ge 12, 3) := by decide +kernel
theorem dX2_op_21 : decode cX2_op 21 = .ok (.aload_n 0, 1) := by decide +kernel
theorem dX2_op_22 : decode cX2_op 22 = .ok (.getfield 15, 3) := by decide +kernel
theorem dX2_op_25 : decode cX2_op 25 = .ok (.iload_n 1, 1) := by decide +kernel
theorem dX2_op_26 : decode cX2_op 26 = .ok (.iaload, 1) := by decide +kernel
theorem dX2_op_27 : decode cX2_op 27 = .ok (.goto 5, 3) := by decide +kernel
theorem dX2_op_30 : decode cX2_op 30 = .ok (.bipush 18, 2) := by decide +kernel
theorem dX2_op_32 : decode cX2_op 32 = .ok (.ireturn, 1) := by decide +kernel
theorem dX2_put_0 : decode cX2_put 0 = .ok (.iload_n 1, 1) := by decide +kernel
theorem dX2_put_1 : decode cX2_put 1 = .ok (.ifCond .lt 19, 3) := by decide +kernel
theorem dX2_put_4 : decode cX2_put 4 = .ok (.iload_n 1, 1) := by decide +kernel
theorem dX2_put_5 : decode cX2_put 5 = .ok (.aload_n 0, 1) := by decide +kernel
theorem dX2_put_6 : decode cX2_put 6 = .ok (.getfield 9, 3) := by decide +kernel
theorem dX2_put_9 : decode cX2_put 9 = .ok (.arraylength, 1) := by decide +kernel
theorem dX2_put_10 : decode cX2_put 10 = .ok (.if_icmp .ge 10, 3) := by decide +kernel
theorem dX2_put_13 : decode cX2_put 13 = .ok (.aload_n 0, 1) := by decide +kernel
theorem dX2_put_14 : decode cX2_put 14 = .ok (.getfield 9, 3) := by decide +kernel
theorem dX2_put_17 : decode cX2_put 17 = .ok (.iload_n 1, 1) := by decide +kernel
theorem dX2_put_18 : decode cX2_put 18 = .ok (.iload_n 2, 1) := by decide +kernel
theorem dX2_put_19 : decode cX2_put 19 = .ok (.iastore, 1) := by decide +kernel
theorem dX2_put_20 : decode cX2_put 20 = .ok (.return_, 1) := by decide +kernel
theorem dX2_spanOf_0 : decode cX2_spanOf 0 = .ok (.iload_n 0, 1) := by decide +kernel
theorem dX2_spanOf_1 : decode cX2_spanOf 1 = .ok (.ifCond .lt 19, 3) := by decide +kernel
theorem dX2_spanOf_4 : decode cX2_spanOf 4 = .ok (.iload_n 0, 1) := by decide +kernel
theorem dX2_spanOf_5 : decode cX2_spanOf 5 = .ok (.getstatic 28, 3) := by decide +kernel
theorem dX2_spanOf_8 : decode cX2_spanOf 8 = .ok (.arraylength, 1) := by decide +kernel
theorem dX2_spanOf_9 : decode cX2_spanOf 9 = .ok (.if_icmp .ge 11, 3) := by decide +kernel
theorem dX2_spanOf_12 : decode cX2_spanOf 12 = .ok (.getstatic 28, 3) := by decide +kernel
theorem dX2_spanOf_15 : decode cX2_spanOf 15 = .ok (.iload_n 0, 1) := by decide +kernel
theorem dX2_spanOf_16 : decode cX2_spanOf 16 = .ok (.iaload, 1) := by decide +kernel
theorem dX2_spanOf_17 : decode cX2_spanOf 17 = .ok (.goto 4, 3) := by decide +kernel
theorem dX2_spanOf_21 : decode cX2_spanOf 21 = .ok (.ireturn, 1) := by decide +kernel
theorem dX3_init_0 : decode cX3_init 0 = .ok (.aload_n 0, 1) := by decide +kernel
theorem dX3_init_1 : decode cX3_init 1 = .ok (.invokespecial 3, 3) := by decide +kernel
theorem dX3_init_4 : decode cX3_init 4 = .ok (.aload_n 0, 1) := by decide +kernel
theorem dX3_init_5 : decode cX3_init 5 = .ok (.bipush 120, 2) := by decide +kernel
theorem dX3_init_7 : decode cX3_init 7 = .ok (.newarray .int, 2) := by decide +kernel
theorem dX3_init_9 : decode cX3_init 9 = .ok (.putfield 9, 3) := by decide +kernel
theorem dX3_init_12 : decode cX3_init 12 = .ok (.aload_n 0, 1) := by decide +kernel
theorem dX3_init_13 : decode cX3_init 13 = .ok (.aload_n 1, 1) := by decide +kernel
theorem dX3_init_14 : decode cX3_init 14 = .ok (.putfield 15, 3) := by decide +kernel
theorem dX3_init_17 : decode cX3_init 17 = .ok (.aload_n 0, 1) := by decide +kernel
theorem dX3_init_18 : decode cX3_init 18 = .ok (.aload_n 2, 1) := by decide +kernel
theorem dX3_init_19 : decode cX3_init 19 = .ok (.putfield 19, 3) := by decide +kernel
theorem dX3_init_22 : decode cX3_init 22 = .ok (.return_, 1) := by decide +kernel
theorem dX3_tell_0 : decode cX3_tell 0 = .ok (.aload_n 0, 1) := by decide +kernel
theorem dX3_tell_1 : decode cX3_tell 1 = .ok (.getfield 15, 3) := by decide +kernel
theorem dX3_tell_4 : decode cX3_tell 4 = .ok (.invokevirtual 23, 3) := by decide +kernel
theorem dX3_tell_7 : decode cX3_tell 7 = .ok (.aload_n 0, 1) := by decide +kernel
theorem dX3_tell_8 : decode cX3_tell 8 = .ok (.getfield 9, 3) := by decide +kernel
theorem dX3_tell_11 : decode cX3_tell 11 = .ok (.arraylength, 1) := by decide +kernel
theorem dX3_tell_12 : decode cX3_tell 12 = .ok (.invokestatic 39, 3) := by decide +kernel
theorem dX3_tell_15 : decode cX3_tell 15 = .ok (.istore_n 1, 1) := by decide +kernel
theorem dX3_tell_16 : decode cX3_tell 16 = .ok (.iconst 0, 1) := by decide +kernel
theorem dX3_tell_17 : decode cX3_tell 17 = .ok (.istore_n 2, 1) := by decide +kernel
theorem dX3_tell_18 : decode cX3_tell 18 = .ok (.iload_n 2, 1) := by decide +kernel
theorem dX3_tell_19 : decode cX3_tell 19 = .ok (.iload_n 1, 1) := by decide +kernel
theorem dX3_tell_20 : decode cX3_tell 20 = .ok (.if_icmp .ge 16, 3) := by decide +kernel
theorem dX3_tell_36 : decode cX3_tell 36 = .ok (.iconst 1, 1) := by decide +kernel
theorem dX3_tell_37 : decode cX3_tell 37 = .ok (.istore_n 2, 1) := by decide +kernel
theorem dX3_tell_38 : decode cX3_tell 38 = .ok (.iconst 0, 1) := by decide +kernel
theorem dX3_tell_39 : decode cX3_tell 39 = .ok (.istore_n 3, 1) := by decide +kernel
theorem dX3_tell_40 : decode cX3_tell 40 = .ok (.iload_n 2, 1) := by decide +kernel
theorem dX3_tell_41 : decode cX3_tell 41 = .ok (.ifCond .eq 89, 3) := by decide +kernel
theorem dX3_tell_44 : decode cX3_tell 44 = .ok (.iload_n 3, 1) := by decide +kernel
theorem dX3_tell_45 : decode cX3_tell 45 = .ok (.sipush 480, 3) := by decide +kernel
theorem dX3_tell_48 : decode cX3_tell 48 = .ok (.if_icmp .gt 82, 3) := by decide +kernel
theorem dX3_tell_51 : decode cX3_tell 51 = .ok (.iconst 0, 1) := by decide +kernel
theorem dX3_tell_52 : decode cX3_tell 52 = .ok (.istore_n 2, 1) := by decide +kernel
theorem dX3_tell_53 : decode cX3_tell 53 = .ok (.iload_n 1, 1) := by decide +kernel
theorem dX3_tell_54 : decode cX3_tell 54 = .ok (.iconst 1, 1) := by decide +kernel
theorem dX3_tell_55 : decode cX3_tell 55 = .ok (.isub, 1) := by decide +kernel
theorem dX3_tell_56 : decode cX3_tell 56 = .ok (.istore 4, 2) := by decide +kernel
theorem dX3_tell_58 : decode cX3_tell 58 = .ok (.iload 4, 2) := by decide +kernel
theorem dX3_tell_60 : decode cX3_tell 60 = .ok (.ifCond .lt 64, 3) := by decide +kernel
theorem dX3_tell_124 : decode cX3_tell 124 = .ok (.iinc 3 1, 3) := by decide +kernel
theorem dX3_tell_127 : decode cX3_tell 127 = .ok (.goto (-87), 3) := by decide +kernel
theorem dX3_tell_130 : decode cX3_tell 130 = .ok (.return_, 1) := by decide +kernel
theorem dX4_branch_0 : decode cX4_branch 0 = .ok (.aload_n 1, 1) := by decide +kernel
theorem dX4_branch_1 : decode cX4_branch 1 = .ok (.aload_n 0, 1) := by decide +kernel
theorem dX4_branch_2 : decode cX4_branch 2 = .ok (.getfield 40, 3) := by decide +kernel
theorem dX4_branch_5 : decode cX4_branch 5 = .ok (.iconst 1, 1) := by decide +kernel
theorem dX4_branch_6 : decode cX4_branch 6 = .ok (.iadd, 1) := by decide +kernel
theorem dX4_branch_7 : decode cX4_branch 7 = .ok (.invokevirtual 67, 3) := by decide +kernel
theorem dX4_branch_10 : decode cX4_branch 10 = .ok (.istore_n 3, 1) := by decide +kernel
theorem dX4_branch_11 : decode cX4_branch 11 = .ok (.iload_n 2, 1) := by decide +kernel
theorem dX4_branch_12 : decode cX4_branch 12 = .ok (.bipush 17, 2) := by decide +kernel
theorem dX4_branch_14 : decode cX4_branch 14 = .ok (.if_icmp .ne 55, 3) := by decide +kernel
theorem dX4_branch_69 : decode cX4_branch 69 = .ok (.iload_n 2, 1) := by decide +kernel
theorem dX4_branch_70 : decode cX4_branch 70 = .ok (.bipush 15, 2) := by decide +kernel
theorem dX4_branch_72 : decode cX4_branch 72 = .ok (.if_icmp .ne 65, 3) := by decide +kernel
theorem dX4_branch_137 : decode cX4_branch 137 = .ok (.iload_n 2, 1) := by decide +kernel
theorem dX4_branch_138 : decode cX4_branch 138 = .ok (.bipush 16, 2) := by decide +kernel
theorem dX4_branch_140 : decode cX4_branch 140 = .ok (.if_icmp .ne 51, 3) := by decide +kernel
theorem dX4_branch_191 : decode cX4_branch 191 = .ok (.aload_n 0, 1) := by decide +kernel
theorem dX4_branch_192 : decode cX4_branch 192 = .ok (.aload_n 0, 1) := by decide +kernel
theorem dX4_branch_193 : decode cX4_branch 193 = .ok (.aload_n 1, 1) := by decide +kernel
theorem dX4_branch_194 : decode cX4_branch 194 = .ok (.aload_n 0, 1) := by decide +kernel
theorem dX4_branch_195 : decode cX4_branch 195 = .ok (.getfield 40, 3) := by decide +kernel
theorem dX4_branch_198 : decode cX4_branch 198 = .ok (.invokevirtual 67, 3) := by decide +kernel
theorem dX4_branch_201 : decode cX4_branch 201 = .ok (.bipush 15, 2) := by decide +kernel
theorem dX4_branch_203 : decode cX4_branch 203 = .ok (.iand, 1) := by decide +kernel
theorem dX4_branch_204 : decode cX4_branch 204 = .ok (.invokevirtual 92, 3) := by decide +kernel
theorem dX4_branch_207 : decode cX4_branch 207 = .ok (.ifCond .eq 7, 3) := by decide +kernel
theorem dX4_branch_210 : decode cX4_branch 210 = .ok (.iload_n 3, 1) := by decide +kernel
theorem dX4_branch_211 : decode cX4_branch 211 = .ok (.goto 16, 3) := by decide +kernel
theorem dX4_branch_227 : decode cX4_branch 227 = .ok (.putfield 40, 3) := by decide +kernel
theorem dX4_branch_230 : decode cX4_branch 230 = .ok (.bipush 32, 2) := by decide +kernel
theorem dX4_branch_232 : decode cX4_branch 232 = .ok (.ireturn, 1) := by decide +kernel
theorem dX4_go_0 : decode cX4_go 0 = .ok (.aload_n 0, 1) := by decide +kernel
theorem dX4_go_1 : decode cX4_go 1 = .ok (.invokevirtual 43, 3) := by decide +kernel
theorem dX4_go_4 : decode cX4_go 4 = .ok (.bipush 32, 2) := by decide +kernel
theorem dX4_go_6 : decode cX4_go 6 = .ok (.istore 5, 2) := by decide +kernel
theorem dX4_go_8 : decode cX4_go 8 = .ok (.iconst 0, 1) := by decide +kernel
theorem dX4_go_9 : decode cX4_go 9 = .ok (.istore 6, 2) := by decide +kernel
theorem dX4_go_11 : decode cX4_go 11 = .ok (.iload 6, 2) := by decide +kernel
theorem dX4_go_13 : decode cX4_go 13 = .ok (.iload 4, 2) := by decide +kernel
theorem dX4_go_15 : decode cX4_go 15 = .ok (.if_icmp .gt 106, 3) := by decide +kernel
theorem dX4_go_18 : decode cX4_go 18 = .ok (.iload 5, 2) := by decide +kernel
theorem dX4_go_20 : decode cX4_go 20 = .ok (.bipush 32, 2) := by decide +kernel
theorem dX4_go_22 : decode cX4_go 22 = .ok (.if_icmp .ne 99, 3) := by decide +kernel
theorem dX4_go_25 : decode cX4_go 25 = .ok (.aload_n 1, 1) := by decide +kernel
theorem dX4_go_26 : decode cX4_go 26 = .ok (.aload_n 0, 1) := by decide +kernel
theorem dX4_go_27 : decode cX4_go 27 = .ok (.getfield 40, 3) := by decide +kernel
theorem dX4_go_30 : decode cX4_go 30 = .ok (.invokevirtual 46, 3) := by decide +kernel
theorem dX4_go_33 : decode cX4_go 33 = .ok (.istore 7, 2) := by decide +kernel
theorem dX4_go_35 : decode cX4_go 35 = .ok (.iload 7, 2) := by decide +kernel
theorem dX4_go_37 : decode cX4_go 37 = .ok (.bipush 18, 2) := by decide +kernel
theorem dX4_go_39 : decode cX4_go 39 = .ok (.if_icmp .ne 10, 3) := by decide +kernel
theorem dX4_go_42 : decode cX4_go 42 = .ok (.bipush 98, 2) := by decide +kernel
theorem dX4_go_44 : decode cX4_go 44 = .ok (.istore 5, 2) := by decide +kernel
theorem dX4_go_46 : decode cX4_go 46 = .ok (.goto 69, 3) := by decide +kernel
theorem dX4_go_49 : decode cX4_go 49 = .ok (.iload 7, 2) := by decide +kernel
theorem dX4_go_51 : decode cX4_go 51 = .ok (.bipush 13, 2) := by decide +kernel
theorem dX4_go_53 : decode cX4_go 53 = .ok (.if_icmp .ne 10, 3) := by decide +kernel
theorem dX4_go_63 : decode cX4_go 63 = .ok (.aload_n 0, 1) := by decide +kernel
theorem dX4_go_64 : decode cX4_go 64 = .ok (.getfield 31, 3) := by decide +kernel
theorem dX4_go_67 : decode cX4_go 67 = .ok (.iload 4, 2) := by decide +kernel
theorem dX4_go_69 : decode cX4_go 69 = .ok (.if_icmp .lt 10, 3) := by decide +kernel
theorem dX4_go_72 : decode cX4_go 72 = .ok (.bipush 115, 2) := by decide +kernel
theorem dX4_go_74 : decode cX4_go 74 = .ok (.istore 5, 2) := by decide +kernel
theorem dX4_go_76 : decode cX4_go 76 = .ok (.goto 39, 3) := by decide +kernel
theorem dX4_go_79 : decode cX4_go 79 = .ok (.aload_n 0, 1) := by decide +kernel
theorem dX4_go_80 : decode cX4_go 80 = .ok (.dup, 1) := by decide +kernel
theorem dX4_go_81 : decode cX4_go 81 = .ok (.getfield 31, 3) := by decide +kernel
theorem dX4_go_84 : decode cX4_go 84 = .ok (.iconst 1, 1) := by decide +kernel
theorem dX4_go_85 : decode cX4_go 85 = .ok (.iadd, 1) := by decide +kernel
theorem dX4_go_86 : decode cX4_go 86 = .ok (.putfield 31, 3) := by decide +kernel
theorem dX4_go_89 : decode cX4_go 89 = .ok (.iload 7, 2) := by decide +kernel
theorem dX4_go_91 : decode cX4_go 91 = .ok (.bipush 10, 2) := by decide +kernel
theorem dX4_go_93 : decode cX4_go 93 = .ok (.if_icmp .ne 13, 3) := by decide +kernel
theorem dX4_go_106 : decode cX4_go 106 = .ok (.aload_n 0, 1) := by decide +kernel
theorem dX4_go_107 : decode cX4_go 107 = .ok (.aload_n 1, 1) := by decide +kernel
theorem dX4_go_108 : decode cX4_go 108 = .ok (.iload 7, 2) := by decide +kernel
theorem dX4_go_110 : decode cX4_go 110 = .ok (.invokevirtual 56, 3) := by decide +kernel
theorem dX4_go_113 : decode cX4_go 113 = .ok (.istore 5, 2) := by decide +kernel
theorem dX4_go_115 : decode cX4_go 115 = .ok (.iinc 6 1, 3) := by decide +kernel
theorem dX4_go_118 : decode cX4_go 118 = .ok (.goto (-107), 3) := by decide +kernel
theorem dX4_go_121 : decode cX4_go 121 = .ok (.iload 5, 2) := by decide +kernel
theorem dX4_go_123 : decode cX4_go 123 = .ok (.ireturn, 1) := by decide +kernel
theorem dX4_init_0 : decode cX4_init 0 = .ok (.aload_n 0, 1) := by decide +kernel
theorem dX4_init_1 : decode cX4_init 1 = .ok (.invokespecial 3, 3) := by decide +kernel
theorem dX4_init_4 : decode cX4_init 4 = .ok (.aload_n 0, 1) := by decide +kernel
theorem dX4_init_5 : decode cX4_init 5 = .ok (.iconst 4, 1) := by decide +kernel
theorem dX4_init_6 : decode cX4_init 6 = .ok (.newarray .int, 2) := by decide +kernel
theorem dX4_init_8 : decode cX4_init 8 = .ok (.putfield 9, 3) := by decide +kernel
theorem dX4_init_11 : decode cX4_init 11 = .ok (.aload_n 0, 1) := by decide +kernel
theorem dX4_init_12 : decode cX4_init 12 = .ok (.bipush 8, 2) := by decide +kernel
theorem dX4_init_14 : decode cX4_init 14 = .ok (.newarray .int, 2) := by decide +kernel
theorem dX4_init_16 : decode cX4_init 16 = .ok (.putfield 15, 3) := by decide +kernel
theorem dX4_init_19 : decode cX4_init 19 = .ok (.aload_n 0, 1) := by decide +kernel
theorem dX4_init_20 : decode cX4_init 20 = .ok (.bipush 8, 2) := by decide +kernel
theorem dX4_init_22 : decode cX4_init 22 = .ok (.newarray .int, 2) := by decide +kernel
theorem dX4_init_24 : decode cX4_init 24 = .ok (.putfield 18, 3) := by decide +kernel
theorem dX4_init_27 : decode cX4_init 27 = .ok (.aload_n 0, 1) := by decide +kernel
theorem dX4_init_28 : decode cX4_init 28 = .ok (.bipush 40, 2) := by decide +kernel
theorem dX4_init_30 : decode cX4_init 30 = .ok (.newarray .int, 2) := by decide +kernel
theorem dX4_init_32 : decode cX4_init 32 = .ok (.putfield 21, 3) := by decide +kernel
theorem dX4_init_35 : decode cX4_init 35 = .ok (.aload_n 0, 1) := by decide +kernel
theorem dX4_init_36 : decode cX4_init 36 = .ok (.iconst 0, 1) := by decide +kernel
theorem dX4_init_37 : decode cX4_init 37 = .ok (.putfield 24, 3) := by decide +kernel
theorem dX4_init_40 : decode cX4_init 40 = .ok (.aload_n 0, 1) := by decide +kernel
theorem dX4_init_41 : decode cX4_init 41 = .ok (.iconst 0, 1) := by decide +kernel
theorem dX4_init_42 : decode cX4_init 42 = .ok (.putfield 28, 3) := by decide +kernel
theorem dX4_init_45 : decode cX4_init 45 = .ok (.aload_n 0, 1) := by decide +kernel
theorem dX4_init_46 : decode cX4_init 46 = .ok (.iconst 0, 1) := by decide +kernel
theorem dX4_init_47 : decode cX4_init 47 = .ok (.putfield 31, 3) := by decide +kernel
theorem dX4_init_50 : decode cX4_init 50 = .ok (.aload_n 0, 1) := by decide +kernel
theorem dX4_init_51 : decode cX4_init 51 = .ok (.iconst 0, 1) := by decide +kernel
theorem dX4_init_52 : decode cX4_init 52 = .ok (.putfield 34, 3) := by decide +kernel
theorem dX4_init_55 : decode cX4_init 55 = .ok (.aload_n 0, 1) := by decide +kernel
theorem dX4_init_56 : decode cX4_init 56 = .ok (.iconst 0, 1) := by decide +kernel
theorem dX4_init_57 : decode cX4_init 57 = .ok (.putfield 37, 3) := by decide +kernel
theorem dX4_init_60 : decode cX4_init 60 = .ok (.aload_n 0, 1) := by decide +kernel
theorem dX4_init_61 : decode cX4_init 61 = .ok (.iconst 0, 1) := by decide +kernel
theorem dX4_init_62 : decode cX4_init 62 = .ok (.putfield 40, 3) := by decide +kernel
theorem dX4_init_65 : decode cX4_init 65 = .ok (.return_, 1) := by decide +kernel
theorem dX4_isTaken_0 : decode cX4_isTaken 0 = .ok (.iload_n 1, 1) := by decide +kernel
theorem dX4_isTaken_1 : decode cX4_isTaken 1 = .ok (.tableswitch 83 1 4 #[31, 44, 57, 70], 31) := by decide +kernel
theorem dX4_isTaken_84 : decode cX4_isTaken 84 = .ok (.iconst 1, 1) := by decide +kernel
theorem dX4_isTaken_85 : decode cX4_isTaken 85 = .ok (.ireturn, 1) := by decide +kernel
theorem dX4_outCount_0 : decode cX4_outCount 0 = .ok (.aload_n 0, 1) := by decide +kernel
theorem dX4_outCount_1 : decode cX4_outCount 1 = .ok (.getfield 28, 3) := by decide +kernel
theorem dX4_outCount_4 : decode cX4_outCount 4 = .ok (.ireturn, 1) := by decide +kernel
theorem dX4_perform_0 : decode cX4_perform 0 = .ok (.aload_n 1, 1) := by decide +kernel
theorem dX4_perform_1 : decode cX4_perform 1 = .ok (.aload_n 0, 1) := by decide +kernel
theorem dX4_perform_2 : decode cX4_perform 2 = .ok (.getfield 40, 3) := by decide +kernel
theorem dX4_perform_5 : decode cX4_perform 5 = .ok (.invokevirtual 60, 3) := by decide +kernel
theorem dX4_perform_8 : decode cX4_perform 8 = .ok (.istore_n 3, 1) := by decide +kernel
theorem dX4_perform_9 : decode cX4_perform 9 = .ok (.aload_n 1, 1) := by decide +kernel
theorem dX4_perform_10 : decode cX4_perform 10 = .ok (.aload_n 0, 1) := by decide +kernel
theorem dX4_perform_11 : decode cX4_perform 11 = .ok (.getfield 40, 3) := by decide +kernel
theorem dX4_perform_14 : decode cX4_perform 14 = .ok (.iconst 1, 1) := by decide +kernel
theorem dX4_perform_15 : decode cX4_perform 15 = .ok (.iadd, 1) := by decide +kernel
theorem dX4_perform_16 : decode cX4_perform 16 = .ok (.invokevirtual 67, 3) := by decide +kernel
theorem dX4_perform_19 : decode cX4_perform 19 = .ok (.istore 4, 2) := by decide +kernel
theorem dX4_perform_21 : decode cX4_perform 21 = .ok (.iload_n 2, 1) := by decide +kernel
theorem dX4_perform_22 : decode cX4_perform 22 = .ok (.tableswitch 235 0 12 #[66, 69, 80, 80, 80, 80, 80, 95, 235, 122, 235, 171, 205], 66) := by decide +kernel
theorem dX4_perform_257 : decode cX4_perform 257 = .ok (.aload_n 0, 1) := by decide +kernel
theorem dX4_perform_258 : decode cX4_perform 258 = .ok (.aload_n 1, 1) := by decide +kernel
theorem dX4_perform_259 : decode cX4_perform 259 = .ok (.iload_n 2, 1) := by decide +kernel
theorem dX4_perform_260 : decode cX4_perform 260 = .ok (.invokevirtual 86, 3) := by decide +kernel
theorem dX4_perform_263 : decode cX4_perform 263 = .ok (.ireturn, 1) := by decide +kernel
theorem dX4_reset_0 : decode cX4_reset 0 = .ok (.iconst 0, 1) := by decide +kernel
theorem dX4_reset_1 : decode cX4_reset 1 = .ok (.istore_n 1, 1) := by decide +kernel
theorem dX4_reset_2 : decode cX4_reset 2 = .ok (.iload_n 1, 1) := by decide +kernel
theorem dX4_reset_3 : decode cX4_reset 3 = .ok (.aload_n 0, 1) := by decide +kernel
theorem dX4_reset_4 : decode cX4_reset 4 = .ok (.getfield 9, 3) := by decide +kernel
theorem dX4_reset_7 : decode cX4_reset 7 = .ok (.arraylength, 1) := by decide +kernel
theorem dX4_reset_8 : decode cX4_reset 8 = .ok (.if_icmp .ge 16, 3) := by decide +kernel
theorem dX4_reset_11 : decode cX4_reset 11 = .ok (.aload_n 0, 1) := by decide +kernel
theorem dX4_reset_12 : decode cX4_reset 12 = .ok (.getfield 9, 3) := by decide +kernel
theorem dX4_reset_15 : decode cX4_reset 15 = .ok (.iload_n 1, 1) := by decide +kernel
theorem dX4_reset_16 : decode cX4_reset 16 = .ok (.iconst 0, 1) := by decide +kernel
theorem dX4_reset_17 : decode cX4_reset 17 = .ok (.iastore, 1) := by decide +kernel
theorem dX4_reset_18 : decode cX4_reset 18 = .ok (.iinc 1 1, 3) := by decide +kernel
theorem dX4_reset_21 : decode cX4_reset 21 = .ok (.goto (-19), 3) := by decide +kernel
theorem dX4_reset_24 : decode cX4_reset 24 = .ok (.iconst 0, 1) := by decide +kernel
theorem dX4_reset_25 : decode cX4_reset 25 = .ok (.istore_n 1, 1) := by decide +kernel
theorem dX4_reset_26 : decode cX4_reset 26 = .ok (.iload_n 1, 1) := by decide +kernel
theorem dX4_reset_27 : decode cX4_reset 27 = .ok (.aload_n 0, 1) := by decide +kernel
theorem dX4_reset_28 : decode cX4_reset 28 = .ok (.getfield 15, 3) := by decide +kernel
theorem dX4_reset_31 : decode cX4_reset 31 = .ok (.arraylength, 1) := by decide +kernel
theorem dX4_reset_32 : decode cX4_reset 32 = .ok (.if_icmp .ge 16, 3) := by decide +kernel
theorem dX4_reset_35 : decode cX4_reset 35 = .ok (.aload_n 0, 1) := by decide +kernel
theorem dX4_reset_36 : decode cX4_reset 36 = .ok (.getfield 15, 3) := by decide +kernel
theorem dX4_reset_39 : decode cX4_reset 39 = .ok (.iload_n 1, 1) := by decide +kernel
theorem dX4_reset_40 : decode cX4_reset 40 = .ok (.iconst 0, 1) := by decide +kernel
theorem dX4_reset_41 : decode cX4_reset 41 = .ok (.iastore, 1) := by decide +kernel
theorem dX4_reset_42 : decode cX4_reset 42 = .ok (.iinc 1 1, 3) := by decide +kernel
theorem dX4_reset_45 : decode cX4_reset 45 = .ok (.goto (-19), 3) := by decide +kernel
theorem dX4_reset_48 : decode cX4_reset 48 = .ok (.aload_n 0, 1) := by decide +kernel
theorem dX4_reset_49 : decode cX4_reset 49 = .ok (.iconst 0, 1) := by decide +kernel
theorem dX4_reset_50 : decode cX4_reset 50 = .ok (.putfield 24, 3) := by decide +kernel
theorem dX4_reset_53 : decode cX4_reset 53 = .ok (.aload_n 0, 1) := by decide +kernel
theorem dX4_reset_54 : decode cX4_reset 54 = .ok (.iconst 0, 1) := by decide +kernel
theorem dX4_reset_55 : decode cX4_reset 55 = .ok (.putfield 28, 3) := by decide +kernel
theorem dX4_reset_58 : decode cX4_reset 58 = .ok (.aload_n 0, 1) := by decide +kernel
theorem dX4_reset_59 : decode cX4_reset 59 = .ok (.iconst 0, 1) := by decide +kernel
theorem dX4_reset_60 : decode cX4_reset 60 = .ok (.putfield 31, 3) := by decide +kernel
theorem dX4_reset_63 : decode cX4_reset 63 = .ok (.aload_n 0, 1) := by decide +kernel
theorem dX4_reset_64 : decode cX4_reset 64 = .ok (.iconst 0, 1) := by decide +kernel
theorem dX4_reset_65 : decode cX4_reset 65 = .ok (.putfield 34, 3) := by decide +kernel
theorem dX4_reset_68 : decode cX4_reset 68 = .ok (.aload_n 0, 1) := by decide +kernel
theorem dX4_reset_69 : decode cX4_reset 69 = .ok (.iconst 0, 1) := by decide +kernel
theorem dX4_reset_70 : decode cX4_reset 70 = .ok (.putfield 37, 3) := by decide +kernel
theorem dX4_reset_73 : decode cX4_reset 73 = .ok (.aload_n 0, 1) := by decide +kernel
theorem dX4_reset_74 : decode cX4_reset 74 = .ok (.iconst 0, 1) := by decide +kernel
theorem dX4_reset_75 : decode cX4_reset 75 = .ok (.putfield 40, 3) := by decide +kernel
theorem dX4_reset_78 : decode cX4_reset 78 = .ok (.return_, 1) := by decide +kernel
theorem dX4_stepCount_0 : decode cX4_stepCount 0 = .ok (.aload_n 0, 1) := by decide +kernel
theorem dX4_stepCount_1 : decode cX4_stepCount 1 = .ok (.getfield 31, 3) := by decide +kernel
theorem dX4_stepCount_4 : decode cX4_stepCount 4 = .ok (.ireturn, 1) := by decide +kernel
theorem dX5_count_0 : decode cX5_count 0 = .ok (.aload_n 0, 1) := by decide +kernel
theorem dX5_count_1 : decode cX5_count 1 = .ok (.getfield 42, 3) := by decide +kernel
theorem dX5_count_4 : decode cX5_count 4 = .ok (.ireturn, 1) := by decide +kernel
theorem dX5_findFunctions_0 : decode cX5_findFunctions 0 = .ok (.aload_n 0, 1) := by decide +kernel
theorem dX5_findFunctions_1 : decode cX5_findFunctions 1 = .ok (.getfield 12, 3) := by decide +kernel
theorem dX5_findFunctions_4 : decode cX5_findFunctions 4 = .ok (.bipush 120, 2) := by decide +kernel
theorem dX5_findFunctions_6 : decode cX5_findFunctions 6 = .ok (.invokevirtual 93, 3) := by decide +kernel
theorem dX5_findFunctions_9 : decode cX5_findFunctions 9 = .ok (.iconst 0, 1) := by decide +kernel
theorem dX5_findFunctions_10 : decode cX5_findFunctions 10 = .ok (.istore_n 3, 1) := by decide +kernel
theorem dX5_findFunctions_11 : decode cX5_findFunctions 11 = .ok (.iload_n 3, 1) := by decide +kernel
theorem dX5_findFunctions_12 : decode cX5_findFunctions 12 = .ok (.aload_n 0, 1) := by decide +kernel
theorem dX5_findFunctions_13 : decode cX5_findFunctions 13 = .ok (.getfield 39, 3) := by decide +kernel
theorem dX5_findFunctions_16 : decode cX5_findFunctions 16 = .ok (.if_icmp .ge 16, 3) := by decide +kernel
theorem dX5_findFunctions_32 : decode cX5_findFunctions 32 = .ok (.aload_n 0, 1) := by decide +kernel
theorem dX5_findFunctions_33 : decode cX5_findFunctions 33 = .ok (.iconst 0, 1) := by decide +kernel
theorem dX5_findFunctions_34 : decode cX5_findFunctions 34 = .ok (.invokevirtual 116, 3) := by decide +kernel
theorem dX5_findFunctions_37 : decode cX5_findFunctions 37 = .ok (.ifCond .eq 10, 3) := by decide +kernel
theorem dX5_findFunctions_47 : decode cX5_findFunctions 47 = .ok (.iconst 0, 1) := by decide +kernel
theorem dX5_findFunctions_48 : decode cX5_findFunctions 48 = .ok (.istore_n 3, 1) := by decide +kernel
theorem dX5_findFunctions_49 : decode cX5_findFunctions 49 = .ok (.iload_n 3, 1) := by decide +kernel
theorem dX5_findFunctions_50 : decode cX5_findFunctions 50 = .ok (.iload_n 2, 1) := by decide +kernel
theorem dX5_findFunctions_51 : decode cX5_findFunctions 51 = .ok (.if_icmp .ge 34, 3) := by decide +kernel
theorem dX5_findFunctions_85 : decode cX5_findFunctions 85 = .ok (.aload_n 0, 1) := by decide +kernel
theorem dX5_findFunctions_86 : decode cX5_findFunctions 86 = .ok (.iconst 0, 1) := by decide +kernel
theorem dX5_findFunctions_87 : decode cX5_findFunctions 87 = .ok (.putfield 42, 3) := by decide +kernel
theorem dX5_findFunctions_90 : decode cX5_findFunctions 90 = .ok (.iconst 0, 1) := by decide +kernel
theorem dX5_findFunctions_91 : decode cX5_findFunctions 91 = .ok (.istore_n 3, 1) := by decide +kernel
theorem dX5_findFunctions_92 : decode cX5_findFunctions 92 = .ok (.iload_n 3, 1) := by decide +kernel
theorem dX5_findFunctions_93 : decode cX5_findFunctions 93 = .ok (.aload_n 0, 1) := by decide +kernel
theorem dX5_findFunctions_94 : decode cX5_findFunctions 94 = .ok (.getfield 39, 3) := by decide +kernel
theorem dX5_findFunctions_97 : decode cX5_findFunctions 97 = .ok (.if_icmp .ge 50, 3) := by decide +kernel
theorem dX5_findFunctions_147 : decode cX5_findFunctions 147 = .ok (.return_, 1) := by decide +kernel
theorem dX5_findReturns_0 : decode cX5_findReturns 0 = .ok (.iconst 0, 1) := by decide +kernel
theorem dX5_findReturns_1 : decode cX5_findReturns 1 = .ok (.istore_n 1, 1) := by decide +kernel
theorem dX5_findReturns_2 : decode cX5_findReturns 2 = .ok (.iload_n 1, 1) := by decide +kernel
theorem dX5_findReturns_3 : decode cX5_findReturns 3 = .ok (.aload_n 0, 1) := by decide +kernel
theorem dX5_findReturns_4 : decode cX5_findReturns 4 = .ok (.getfield 39, 3) := by decide +kernel
theorem dX5_findReturns_7 : decode cX5_findReturns 7 = .ok (.if_icmp .ge 16, 3) := by decide +kernel
theorem dX5_findReturns_23 : decode cX5_findReturns 23 = .ok (.iconst 1, 1) := by decide +kernel
theorem dX5_findReturns_24 : decode cX5_findReturns 24 = .ok (.istore_n 1, 1) := by decide +kernel
theorem dX5_findReturns_25 : decode cX5_findReturns 25 = .ok (.iconst 0, 1) := by decide +kernel
theorem dX5_findReturns_26 : decode cX5_findReturns 26 = .ok (.istore_n 2, 1) := by decide +kernel
theorem dX5_findReturns_27 : decode cX5_findReturns 27 = .ok (.iload_n 1, 1) := by decide +kernel
theorem dX5_findReturns_28 : decode cX5_findReturns 28 = .ok (.ifCond .eq 60, 3) := by decide +kernel
theorem dX5_findReturns_31 : decode cX5_findReturns 31 = .ok (.iload_n 2, 1) := by decide +kernel
theorem dX5_findReturns_32 : decode cX5_findReturns 32 = .ok (.bipush 120, 2) := by decide +kernel
theorem dX5_findReturns_34 : decode cX5_findReturns 34 = .ok (.if_icmp .gt 54, 3) := by decide +kernel
theorem dX5_findReturns_37 : decode cX5_findReturns 37 = .ok (.iconst 0, 1) := by decide +kernel
theorem dX5_findReturns_38 : decode cX5_findReturns 38 = .ok (.istore_n 1, 1) := by decide +kernel
theorem dX5_findReturns_39 : decode cX5_findReturns 39 = .ok (.aload_n 0, 1) := by decide +kernel
theorem dX5_findReturns_40 : decode cX5_findReturns 40 = .ok (.getfield 39, 3) := by decide +kernel
theorem dX5_findReturns_43 : decode cX5_findReturns 43 = .ok (.iconst 1, 1) := by decide +kernel
theorem dX5_findReturns_44 : decode cX5_findReturns 44 = .ok (.isub, 1) := by decide +kernel
theorem dX5_findReturns_45 : decode cX5_findReturns 45 = .ok (.istore_n 3, 1) := by decide +kernel
theorem dX5_findReturns_46 : decode cX5_findReturns 46 = .ok (.iload_n 3, 1) := by decide +kernel
theorem dX5_findReturns_47 : decode cX5_findReturns 47 = .ok (.ifCond .lt 35, 3) := by decide +kernel
theorem dX5_findReturns_82 : decode cX5_findReturns 82 = .ok (.iinc 2 1, 3) := by decide +kernel
theorem dX5_findReturns_85 : decode cX5_findReturns 85 = .ok (.goto (-58), 3) := by decide +kernel
theorem dX5_findReturns_88 : decode cX5_findReturns 88 = .ok (.return_, 1) := by decide +kernel
theorem dX5_init_0 : decode cX5_init 0 = .ok (.aload_n 0, 1) := by decide +kernel
theorem dX5_init_1 : decode cX5_init 1 = .ok (.invokespecial 3, 3) := by decide +kernel
theorem dX5_init_4 : decode cX5_init 4 = .ok (.aload_n 0, 1) := by decide +kernel
theorem dX5_init_5 : decode cX5_init 5 = .ok (.new 9, 3) := by decide +kernel
theorem dX5_init_8 : decode cX5_init 8 = .ok (.dup, 1) := by decide +kernel
theorem dX5_init_9 : decode cX5_init 9 = .ok (.invokespecial 11, 3) := by decide +kernel
theorem dX5_init_12 : decode cX5_init 12 = .ok (.putfield 12, 3) := by decide +kernel
theorem dX5_init_15 : decode cX5_init 15 = .ok (.aload_n 0, 1) := by decide +kernel
theorem dX5_init_16 : decode cX5_init 16 = .ok (.bipush 120, 2) := by decide +kernel
theorem dX5_init_18 : decode cX5_init 18 = .ok (.newarray .boolean, 2) := by decide +kernel
theorem dX5_init_20 : decode cX5_init 20 = .ok (.putfield 18, 3) := by decide +kernel
theorem dX5_init_23 : decode cX5_init 23 = .ok (.aload_n 0, 1) := by decide +kernel
theorem dX5_init_24 : decode cX5_init 24 = .ok (.bipush 120, 2) := by decide +kernel
theorem dX5_init_26 : decode cX5_init 26 = .ok (.newarray .boolean, 2) := by decide +kernel
theorem dX5_init_28 : decode cX5_init 28 = .ok (.putfield 22, 3) := by decide +kernel
theorem dX5_init_31 : decode cX5_init 31 = .ok (.aload_n 0, 1) := by decide +kernel
theorem dX5_init_32 : decode cX5_init 32 = .ok (.bipush 120, 2) := by decide +kernel
theorem dX5_init_34 : decode cX5_init 34 = .ok (.newarray .int, 2) := by decide +kernel
theorem dX5_init_36 : decode cX5_init 36 = .ok (.putfield 25, 3) := by decide +kernel
theorem dX5_init_39 : decode cX5_init 39 = .ok (.aload_n 0, 1) := by decide +kernel
theorem dX5_init_40 : decode cX5_init 40 = .ok (.bipush 120, 2) := by decide +kernel
theorem dX5_init_42 : decode cX5_init 42 = .ok (.newarray .int, 2) := by decide +kernel
theorem dX5_init_44 : decode cX5_init 44 = .ok (.putfield 29, 3) := by decide +kernel
theorem dX5_init_47 : decode cX5_init 47 = .ok (.aload_n 0, 1) := by decide +kernel
theorem dX5_init_48 : decode cX5_init 48 = .ok (.bipush 120, 2) := by decide +kernel
theorem dX5_init_50 : decode cX5_init 50 = .ok (.newarray .int, 2) := by decide +kernel
theorem dX5_init_52 : decode cX5_init 52 = .ok (.putfield 32, 3) := by decide +kernel
theorem dX5_init_55 : decode cX5_init 55 = .ok (.aload_n 0, 1) := by decide +kernel
theorem dX5_init_56 : decode cX5_init 56 = .ok (.iconst 0, 1) := by decide +kernel
theorem dX5_init_57 : decode cX5_init 57 = .ok (.putfield 35, 3) := by decide +kernel
theorem dX5_init_60 : decode cX5_init 60 = .ok (.aload_n 0, 1) := by decide +kernel
theorem dX5_init_61 : decode cX5_init 61 = .ok (.iconst 0, 1) := by decide +kernel
theorem dX5_init_62 : decode cX5_init 62 = .ok (.putfield 39, 3) := by decide +kernel
theorem dX5_init_65 : decode cX5_init 65 = .ok (.aload_n 0, 1) := by decide +kernel
theorem dX5_init_66 : decode cX5_init 66 = .ok (.iconst 0, 1) := by decide +kernel
theorem dX5_init_67 : decode cX5_init 67 = .ok (.putfield 42, 3) := by decide +kernel
theorem dX5_init_70 : decode cX5_init 70 = .ok (.aload_n 0, 1) := by decide +kernel
theorem dX5_init_71 : decode cX5_init 71 = .ok (.aload_n 1, 1) := by decide +kernel
theorem dX5_init_72 : decode cX5_init 72 = .ok (.putfield 45, 3) := by decide +kernel
theorem dX5_init_75 : decode cX5_init 75 = .ok (.return_, 1) := by decide +kernel
theorem dX5_isFunction_0 : decode cX5_isFunction 0 = .ok (.iload_n 1, 1) := by decide +kernel
theorem dX5_isFunction_1 : decode cX5_isFunction 1 = .ok (.ifCond .lt 15, 3) := by decide +kernel
theorem dX5_isFunction_4 : decode cX5_isFunction 4 = .ok (.iload_n 1, 1) := by decide +kernel
theorem dX5_isFunction_5 : decode cX5_isFunction 5 = .ok (.aload_n 0, 1) := by decide +kernel
theorem dX5_isFunction_6 : decode cX5_isFunction 6 = .ok (.getfield 42, 3) := by decide +kernel
theorem dX5_isFunction_9 : decode cX5_isFunction 9 = .ok (.if_icmp .ge 7, 3) := by decide +kernel
theorem dX5_isFunction_16 : decode cX5_isFunction 16 = .ok (.iconst 0, 1) := by decide +kernel
theorem dX5_isFunction_17 : decode cX5_isFunction 17 = .ok (.ireturn, 1) := by decide +kernel
theorem dX5_markBytes_0 : decode cX5_markBytes 0 = .ok (.iconst 0, 1) := by decide +kernel
theorem dX5_markBytes_1 : decode cX5_markBytes 1 = .ok (.istore_n 1, 1) := by decide +kernel
theorem dX5_markBytes_2 : decode cX5_markBytes 2 = .ok (.iload_n 1, 1) := by decide +kernel
theorem dX5_markBytes_3 : decode cX5_markBytes 3 = .ok (.aload_n 0, 1) := by decide +kernel
theorem dX5_markBytes_4 : decode cX5_markBytes 4 = .ok (.getfield 39, 3) := by decide +kernel
theorem dX5_markBytes_7 : decode cX5_markBytes 7 = .ok (.if_icmp .ge 16, 3) := by decide +kernel
theorem dX5_markBytes_23 : decode cX5_markBytes 23 = .ok (.iconst 0, 1) := by decide +kernel
theorem dX5_markBytes_24 : decode cX5_markBytes 24 = .ok (.istore_n 1, 1) := by decide +kernel
theorem dX5_markBytes_25 : decode cX5_markBytes 25 = .ok (.iload_n 1, 1) := by decide +kernel
theorem dX5_markBytes_26 : decode cX5_markBytes 26 = .ok (.aload_n 0, 1) := by decide +kernel
theorem dX5_markBytes_27 : decode cX5_markBytes 27 = .ok (.getfield 39, 3) := by decide +kernel
theorem dX5_markBytes_30 : decode cX5_markBytes 30 = .ok (.if_icmp .ge 27, 3) := by decide +kernel
theorem dX5_markBytes_57 : decode cX5_markBytes 57 = .ok (.return_, 1) := by decide +kernel
theorem dX5_noteEntry_0 : decode cX5_noteEntry 0 = .ok (.iload_n 1, 1) := by decide +kernel
theorem dX5_noteEntry_1 : decode cX5_noteEntry 1 = .ok (.ifCond .lt 24, 3) := by decide +kernel
theorem dX5_noteEntry_4 : decode cX5_noteEntry 4 = .ok (.iload_n 1, 1) := by decide +kernel
theorem dX5_noteEntry_5 : decode cX5_noteEntry 5 = .ok (.aload_n 0, 1) := by decide +kernel
theorem dX5_noteEntry_6 : decode cX5_noteEntry 6 = .ok (.getfield 39, 3) := by decide +kernel
theorem dX5_noteEntry_9 : decode cX5_noteEntry 9 = .ok (.if_icmp .ge 16, 3) := by decide +kernel
theorem dX5_noteEntry_25 : decode cX5_noteEntry 25 = .ok (.iconst 0, 1) := by decide +kernel
theorem dX5_noteEntry_26 : decode cX5_noteEntry 26 = .ok (.ireturn, 1) := by decide +kernel
theorem dX5_tell_0 : decode cX5_tell 0 = .ok (.aload_n 0, 1) := by decide +kernel
theorem dX5_tell_1 : decode cX5_tell 1 = .ok (.aload_n 0, 1) := by decide +kernel
theorem dX5_tell_2 : decode cX5_tell 2 = .ok (.getfield 45, 3) := by decide +kernel
theorem dX5_tell_5 : decode cX5_tell 5 = .ok (.invokevirtual 77, 3) := by decide +kernel
theorem dX5_tell_8 : decode cX5_tell 8 = .ok (.bipush 120, 2) := by decide +kernel
theorem dX5_tell_10 : decode cX5_tell 10 = .ok (.invokestatic 80, 3) := by decide +kernel
theorem dX5_tell_13 : decode cX5_tell 13 = .ok (.putfield 39, 3) := by decide +kernel
theorem dX5_tell_16 : decode cX5_tell 16 = .ok (.aload_n 0, 1) := by decide +kernel
theorem dX5_tell_17 : decode cX5_tell 17 = .ok (.invokevirtual 86, 3) := by decide +kernel
theorem dX5_tell_20 : decode cX5_tell 20 = .ok (.aload_n 0, 1) := by decide +kernel
theorem dX5_tell_21 : decode cX5_tell 21 = .ok (.aload_n 1, 1) := by decide +kernel
theorem dX5_tell_22 : decode cX5_tell 22 = .ok (.iload_n 2, 1) := by decide +kernel
theorem dX5_tell_23 : decode cX5_tell 23 = .ok (.invokevirtual 89, 3) := by decide +kernel
theorem dX5_tell_26 : decode cX5_tell 26 = .ok (.iconst 0, 1) := by decide +kernel
theorem dX5_tell_27 : decode cX5_tell 27 = .ok (.istore_n 3, 1) := by decide +kernel
theorem dX5_tell_28 : decode cX5_tell 28 = .ok (.iload_n 3, 1) := by decide +kernel
theorem dX5_tell_29 : decode cX5_tell 29 = .ok (.aload_n 0, 1) := by decide +kernel
theorem dX5_tell_30 : decode cX5_tell 30 = .ok (.getfield 42, 3) := by decide +kernel
theorem dX5_tell_33 : decode cX5_tell 33 = .ok (.if_icmp .ge 27, 3) := by decide +kernel
theorem dX5_tell_60 : decode cX5_tell 60 = .ok (.aload_n 0, 1) := by decide +kernel
theorem dX5_tell_61 : decode cX5_tell 61 = .ok (.invokevirtual 104, 3) := by decide +kernel
theorem dX5_tell_64 : decode cX5_tell 64 = .ok (.return_, 1) := by decide +kernel
theorem dX6_init_0 : decode cX6_init 0 = .ok (.aload_n 0, 1) := by decide +kernel
theorem dX6_init_1 : decode cX6_init 1 = .ok (.invokespecial 3, 3) := by decide +kernel
theorem dX6_init_4 : decode cX6_init 4 = .ok (.aload_n 0, 1) := by decide +kernel
theorem dX6_init_5 : decode cX6_init 5 = .ok (.sipush 256, 3) := by decide +kernel
theorem dX6_init_8 : decode cX6_init 8 = .ok (.newarray .char, 2) := by decide +kernel
theorem dX6_init_10 : decode cX6_init 10 = .ok (.putfield 9, 3) := by decide +kernel
theorem dX6_init_13 : decode cX6_init 13 = .ok (.aload_n 0, 1) := by decide +kernel
theorem dX6_init_14 : decode cX6_init 14 = .ok (.iconst 0, 1) := by decide +kernel
theorem dX6_init_15 : decode cX6_init 15 = .ok (.putfield 15, 3) := by decide +kernel
theorem dX6_init_18 : decode cX6_init 18 = .ok (.aload_n 0, 1) := by decide +kernel
theorem dX6_init_19 : decode cX6_init 19 = .ok (.iconst 0, 1) := by decide +kernel
theorem dX6_init_20 : decode cX6_init 20 = .ok (.putfield 19, 3) := by decide +kernel
theorem dX6_init_23 : decode cX6_init 23 = .ok (.aload_n 0, 1) := by decide +kernel
theorem dX6_init_24 : decode cX6_init 24 = .ok (.aload_n 1, 1) := by decide +kernel
theorem dX6_init_25 : decode cX6_init 25 = .ok (.putfield 23, 3) := by decide +kernel
theorem dX6_init_28 : decode cX6_init 28 = .ok (.aload_n 0, 1) := by decide +kernel
theorem dX6_init_29 : decode cX6_init 29 = .ok (.aload_n 2, 1) := by decide +kernel
theorem dX6_init_30 : decode cX6_init 30 = .ok (.putfield 27, 3) := by decide +kernel
theorem dX6_init_33 : decode cX6_init 33 = .ok (.aload_n 0, 1) := by decide +kernel
theorem dX6_init_34 : decode cX6_init 34 = .ok (.aload_n 3, 1) := by decide +kernel
theorem dX6_init_35 : decode cX6_init 35 = .ok (.putfield 31, 3) := by decide +kernel
theorem dX6_init_38 : decode cX6_init 38 = .ok (.aload_n 0, 1) := by decide +kernel
theorem dX6_init_39 : decode cX6_init 39 = .ok (.aload 4, 2) := by decide +kernel
theorem dX6_init_41 : decode cX6_init 41 = .ok (.putfield 35, 3) := by decide +kernel
theorem dX6_init_44 : decode cX6_init 44 = .ok (.aload_n 0, 1) := by decide +kernel
theorem dX6_init_45 : decode cX6_init 45 = .ok (.new 39, 3) := by decide +kernel
theorem dX6_init_48 : decode cX6_init 48 = .ok (.dup, 1) := by decide +kernel
theorem dX6_init_49 : decode cX6_init 49 = .ok (.aload_n 1, 1) := by decide +kernel
theorem dX6_init_50 : decode cX6_init 50 = .ok (.aload_n 2, 1) := by decide +kernel
theorem dX6_init_51 : decode cX6_init 51 = .ok (.aload_n 3, 1) := by decide +kernel
theorem dX6_init_52 : decode cX6_init 52 = .ok (.iconst 0, 1) := by decide +kernel
theorem dX6_init_53 : decode cX6_init 53 = .ok (.invokespecial 41, 3) := by decide +kernel
theorem dX6_init_56 : decode cX6_init 56 = .ok (.putfield 44, 3) := by decide +kernel
theorem dX6_init_59 : decode cX6_init 59 = .ok (.return_, 1) := by decide +kernel
theorem dX7_clear_0 : decode cX7_clear 0 = .ok (.iload_n 1, 1) := by decide +kernel
theorem dX7_clear_1 : decode cX7_clear 1 = .ok (.ifCond .lt 35, 3) := by decide +kernel
theorem dX7_clear_4 : decode cX7_clear 4 = .ok (.iload_n 1, 1) := by decide +kernel
theorem dX7_clear_5 : decode cX7_clear 5 = .ok (.aload_n 0, 1) := by decide +kernel
theorem dX7_clear_6 : decode cX7_clear 6 = .ok (.getfield 9, 3) := by decide +kernel
theorem dX7_clear_9 : decode cX7_clear 9 = .ok (.arraylength, 1) := by decide +kernel
theorem dX7_clear_10 : decode cX7_clear 10 = .ok (.if_icmp .ge 26, 3) := by decide +kernel
theorem dX7_clear_13 : decode cX7_clear 13 = .ok (.iload_n 1, 1) := by decide +kernel
theorem dX7_clear_14 : decode cX7_clear 14 = .ok (.aload_n 0, 1) := by decide +kernel
theorem dX7_clear_15 : decode cX7_clear 15 = .ok (.getfield 15, 3) := by decide +kernel
theorem dX7_clear_18 : decode cX7_clear 18 = .ok (.arraylength, 1) := by decide +kernel
theorem dX7_clear_19 : decode cX7_clear 19 = .ok (.if_icmp .ge 17, 3) := by decide +kernel
theorem dX7_clear_22 : decode cX7_clear 22 = .ok (.aload_n 0, 1) := by decide +kernel
theorem dX7_clear_23 : decode cX7_clear 23 = .ok (.getfield 9, 3) := by decide +kernel
theorem dX7_clear_26 : decode cX7_clear 26 = .ok (.iload_n 1, 1) := by decide +kernel
theorem dX7_clear_27 : decode cX7_clear 27 = .ok (.lconst 0, 1) := by decide +kernel
theorem dX7_clear_28 : decode cX7_clear 28 = .ok (.lastore, 1) := by decide +kernel
theorem dX7_clear_29 : decode cX7_clear 29 = .ok (.aload_n 0, 1) := by decide +kernel
theorem dX7_clear_30 : decode cX7_clear 30 = .ok (.getfield 15, 3) := by decide +kernel
theorem dX7_clear_33 : decode cX7_clear 33 = .ok (.iload_n 1, 1) := by decide +kernel
theorem dX7_clear_34 : decode cX7_clear 34 = .ok (.lconst 0, 1) := by decide +kernel
theorem dX7_clear_35 : decode cX7_clear 35 = .ok (.lastore, 1) := by decide +kernel
theorem dX7_clear_36 : decode cX7_clear 36 = .ok (.return_, 1) := by decide +kernel
theorem dX7_init_0 : decode cX7_init 0 = .ok (.aload_n 0, 1) := by decide +kernel
theorem dX7_init_1 : decode cX7_init 1 = .ok (.invokespecial 3, 3) := by decide +kernel
theorem dX7_init_4 : decode cX7_init 4 = .ok (.aload_n 0, 1) := by decide +kernel
theorem dX7_init_5 : decode cX7_init 5 = .ok (.bipush 121, 2) := by decide +kernel
theorem dX7_init_7 : decode cX7_init 7 = .ok (.newarray .long, 2) := by decide +kernel
theorem dX7_init_9 : decode cX7_init 9 = .ok (.putfield 9, 3) := by decide +kernel
theorem dX7_init_12 : decode cX7_init 12 = .ok (.aload_n 0, 1) := by decide +kernel
theorem dX7_init_13 : decode cX7_init 13 = .ok (.bipush 121, 2) := by decide +kernel
theorem dX7_init_15 : decode cX7_init 15 = .ok (.newarray .long, 2) := by decide +kernel
theorem dX7_init_17 : decode cX7_init 17 = .ok (.putfield 15, 3) := by decide +kernel
theorem dX7_init_20 : decode cX7_init 20 = .ok (.return_, 1) := by decide +kernel
theorem dX8_count_0 : decode cX8_count 0 = .ok (.aload_n 0, 1) := by decide +kernel
theorem dX8_count_1 : decode cX8_count 1 = .ok (.getfield 19, 3) := by decide +kernel
theorem dX8_count_4 : decode cX8_count 4 = .ok (.ireturn, 1) := by decide +kernel
theorem dX8_empty_0 : decode cX8_empty 0 = .ok (.aload_n 0, 1) := by decide +kernel
theorem dX8_empty_1 : decode cX8_empty 1 = .ok (.iconst 0, 1) := by decide +kernel
theorem dX8_empty_2 : decode cX8_empty 2 = .ok (.putfield 19, 3) := by decide +kernel
theorem dX8_empty_5 : decode cX8_empty 5 = .ok (.return_, 1) := by decide +kernel
theorem dX8_init_0 : decode cX8_init 0 = .ok (.aload_n 0, 1) := by decide +kernel
theorem dX8_init_1 : decode cX8_init 1 = .ok (.invokespecial 3, 3) := by decide +kernel
theorem dX8_init_4 : decode cX8_init 4 = .ok (.aload_n 0, 1) := by decide +kernel
theorem dX8_init_5 : decode cX8_init 5 = .ok (.bipush 64, 2) := by decide +kernel
theorem dX8_init_7 : decode cX8_init 7 = .ok (.newarray .char, 2) := by decide +kernel
theorem dX8_init_9 : decode cX8_init 9 = .ok (.putfield 9, 3) := by decide +kernel
theorem dX8_init_12 : decode cX8_init 12 = .ok (.aload_n 0, 1) := by decide +kernel
theorem dX8_init_13 : decode cX8_init 13 = .ok (.bipush 121, 2) := by decide +kernel
theorem dX8_init_15 : decode cX8_init 15 = .ok (.newarray .int, 2) := by decide +kernel
theorem dX8_init_17 : decode cX8_init 17 = .ok (.putfield 15, 3) := by decide +kernel
theorem dX8_init_20 : decode cX8_init 20 = .ok (.aload_n 0, 1) := by decide +kernel
theorem dX8_init_21 : decode cX8_init 21 = .ok (.iconst 0, 1) := by decide +kernel
theorem dX8_init_22 : decode cX8_init 22 = .ok (.putfield 19, 3) := by decide +kernel
theorem dX8_init_25 : decode cX8_init 25 = .ok (.return_, 1) := by decide +kernel
theorem dX9_init_0 : decode cX9_init 0 = .ok (.aload_n 0, 1) := by decide +kernel
theorem dX9_init_1 : decode cX9_init 1 = .ok (.invokespecial 3, 3) := by decide +kernel
theorem dX9_init_4 : decode cX9_init 4 = .ok (.aload_n 0, 1) := by decide +kernel
theorem dX9_init_5 : decode cX9_init 5 = .ok (.bipush 120, 2) := by decide +kernel
theorem dX9_init_7 : decode cX9_init 7 = .ok (.newarray .int, 2) := by decide +kernel
theorem dX9_init_9 : decode cX9_init 9 = .ok (.putfield 9, 3) := by decide +kernel
theorem dX9_init_12 : decode cX9_init 12 = .ok (.aload_n 0, 1) := by decide +kernel
theorem dX9_init_13 : decode cX9_init 13 = .ok (.bipush 120, 2) := by decide +kernel
theorem dX9_init_15 : decode cX9_init 15 = .ok (.newarray .int, 2) := by decide +kernel
theorem dX9_init_17 : decode cX9_init 17 = .ok (.putfield 15, 3) := by decide +kernel
theorem dX9_init_20 : decode cX9_init 20 = .ok (.aload_n 0, 1) := by decide +kernel
theorem dX9_init_21 : decode cX9_init 21 = .ok (.bipush 120, 2) := by decide +kernel
theorem dX9_init_23 : decode cX9_init 23 = .ok (.newarray .int, 2) := by decide +kernel
theorem dX9_init_25 : decode cX9_init 25 = .ok (.putfield 18, 3) := by decide +kernel
theorem dX9_init_28 : decode cX9_init 28 = .ok (.aload_n 0, 1) := by decide +kernel
theorem dX9_init_29 : decode cX9_init 29 = .ok (.bipush 120, 2) := by decide +kernel
theorem dX9_init_31 : decode cX9_init 31 = .ok (.newarray .int, 2) := by decide +kernel
theorem dX9_init_33 : decode cX9_init 33 = .ok (.putfield 21, 3) := by decide +kernel
theorem dX9_init_36 : decode cX9_init 36 = .ok (.aload_n 0, 1) := by decide +kernel
theorem dX9_init_37 : decode cX9_init 37 = .ok (.iconst 0, 1) := by decide +kernel
theorem dX9_init_38 : decode cX9_init 38 = .ok (.putfield 24, 3) := by decide +kernel
theorem dX9_init_41 : decode cX9_init 41 = .ok (.aload_n 0, 1) := by decide +kernel
theorem dX9_init_42 : decode cX9_init 42 = .ok (.iconst (-1), 1) := by decide +kernel
theorem dX9_init_43 : decode cX9_init 43 = .ok (.putfield 28, 3) := by decide +kernel
theorem dX9_init_46 : decode cX9_init 46 = .ok (.aload_n 0, 1) := by decide +kernel
theorem dX9_init_47 : decode cX9_init 47 = .ok (.iconst 0, 1) := by decide +kernel
theorem dX9_init_48 : decode cX9_init 48 = .ok (.putfield 31, 3) := by decide +kernel
theorem dX9_init_51 : decode cX9_init 51 = .ok (.aload_n 0, 1) := by decide +kernel
theorem dX9_init_52 : decode cX9_init 52 = .ok (.iconst 0, 1) := by decide +kernel
theorem dX9_init_53 : decode cX9_init 53 = .ok (.putfield 34, 3) := by decide +kernel
theorem dX9_init_56 : decode cX9_init 56 = .ok (.aload_n 0, 1) := by decide +kernel
theorem dX9_init_57 : decode cX9_init 57 = .ok (.iconst (-1), 1) := by decide +kernel
theorem dX9_init_58 : decode cX9_init 58 = .ok (.putfield 37, 3) := by decide +kernel
theorem dX9_init_61 : decode cX9_init 61 = .ok (.aload_n 0, 1) := by decide +kernel
theorem dX9_init_62 : decode cX9_init 62 = .ok (.bipush 32, 2) := by decide +kernel
theorem dX9_init_64 : decode cX9_init 64 = .ok (.putfield 40, 3) := by decide +kernel
theorem dX9_init_67 : decode cX9_init 67 = .ok (.aload_n 0, 1) := by decide +kernel
theorem dX9_init_68 : decode cX9_init 68 = .ok (.aload_n 1, 1) := by decide +kernel
theorem dX9_init_69 : decode cX9_init 69 = .ok (.putfield 44, 3) := by decide +kernel
theorem dX9_init_72 : decode cX9_init 72 = .ok (.aload_n 0, 1) := by decide +kernel
theorem dX9_init_73 : decode cX9_init 73 = .ok (.aload_n 2, 1) := by decide +kernel
theorem dX9_init_74 : decode cX9_init 74 = .ok (.putfield 48, 3) := by decide +kernel
theorem dX9_init_77 : decode cX9_init 77 = .ok (.aload_n 0, 1) := by decide +kernel
theorem dX9_init_78 : decode cX9_init 78 = .ok (.aload_n 3, 1) := by decide +kernel
theorem dX9_init_79 : decode cX9_init 79 = .ok (.putfield 52, 3) := by decide +kernel
theorem dX9_init_82 : decode cX9_init 82 = .ok (.aload_n 0, 1) := by decide +kernel
theorem dX9_init_83 : decode cX9_init 83 = .ok (.iload 4, 2) := by decide +kernel
theorem dX9_init_85 : decode cX9_init 85 = .ok (.putfield 56, 3) := by decide +kernel
theorem dX9_init_88 : decode cX9_init 88 = .ok (.return_, 1) := by decide +kernel
