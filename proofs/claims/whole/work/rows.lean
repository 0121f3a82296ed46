section
def RX0 : String := "MeetingHouse$Coder"
def TX0 : u_T := fun k => match k with
  | 0 => ("MeetingHouse$Coder", "code", "[I", true)
  | 1 => ("MeetingHouse$Coder", "size", "I", false)
  | 2 => ("MeetingHouse$Coder", "slots", "I", false)
  | 3 => ("MeetingHouse$Coder", "topSlots", "[I", true)
  | 4 => ("MeetingHouse$Coder", "topCells", "[I", true)
  | 5 => ("MeetingHouse$Coder", "tops", "I", false)
  | 6 => ("MeetingHouse$Coder", "tree", "LMeetingHouse$Tree;", true)
  | _ => ("MeetingHouse$Coder", "names", "LMeetingHouse$Names;", true)
def tyX0 : Nat → FieldType := fun k => match k with
  | 0 => .array .int
  | 1 => .int
  | 2 => .int
  | 3 => .array .int
  | 4 => .array .int
  | 5 => .int
  | 6 => .object "MeetingHouse$Tree"
  | _ => .object "MeetingHouse$Names"
abbrev wsX00 : List Cond := u_ws RX0 TX0 8
theorem nmX0 : ∀ a, a < 8 → ∀ b, b < 8 → a ≠ b → (TX0 a).2.1 ≠ (TX0 b).2.1 := by decide +kernel
theorem tyX0_ok : ∀ k, k < 8 → parseFieldDescriptor (TX0 k).2.2.1 = some (tyX0 k) := by decide +kernel
def RX1 : String := "MeetingHouse$Hall"
def TX1 : u_T := fun k => match k with
  | 0 => ("MeetingHouse$Hall", "procs", "[LMeetingHouse$Proc;", true)
  | 1 => ("MeetingHouse$Hall", "order", "[I", true)
  | 2 => ("MeetingHouse$Hall", "live", "I", false)
  | 3 => ("MeetingHouse$Hall", "made", "I", false)
  | 4 => ("MeetingHouse$Hall", "clock", "I", false)
  | 5 => ("MeetingHouse$Hall", "steps", "I", false)
  | 6 => ("MeetingHouse$Hall", "seed", "I", false)
  | 7 => ("MeetingHouse$Hall", "shown", "[B", true)
  | 8 => ("MeetingHouse$Hall", "shownCount", "I", false)
  | 9 => ("MeetingHouse$Hall", "keys", "[I", true)
  | 10 => ("MeetingHouse$Hall", "keyFrom", "I", false)
  | 11 => ("MeetingHouse$Hall", "keyCount", "I", false)
  | 12 => ("MeetingHouse$Hall", "message", "[I", true)
  | 13 => ("MeetingHouse$Hall", "messageSize", "I", false)
  | 14 => ("MeetingHouse$Hall", "facts", "[I", true)
  | _ => ("MeetingHouse$Hall", "meetings", "I", false)
def tyX1 : Nat → FieldType := fun k => match k with
  | 0 => .array (.object "MeetingHouse$Proc")
  | 1 => .array .int
  | 2 => .int
  | 3 => .int
  | 4 => .int
  | 5 => .int
  | 6 => .int
  | 7 => .array .byte
  | 8 => .int
  | 9 => .array .int
  | 10 => .int
  | 11 => .int
  | 12 => .array .int
  | 13 => .int
  | 14 => .array .int
  | _ => .int
abbrev wsX10 : List Cond := u_ws RX1 TX1 16
theorem nmX1 : ∀ a, a < 16 → ∀ b, b < 16 → a ≠ b → (TX1 a).2.1 ≠ (TX1 b).2.1 := by decide +kernel
theorem tyX1_ok : ∀ k, k < 16 → parseFieldDescriptor (TX1 k).2.2.1 = some (tyX1 k) := by decide +kernel
def RX2 : String := "MeetingHouse$Heap"
def TX2 : u_T := fun k => match k with
  | 0 => ("MeetingHouse$Heap", "taken", "I", false)
  | 1 => ("MeetingHouse$Heap", "cells", "[I", false)
  | 2 => ("MeetingHouse$Heap", "start", "[I", false)
  | 3 => ("MeetingHouse$Heap", "length", "[I", false)
  | 4 => ("MeetingHouse$Heap", "line", "[I", false)
  | 5 => ("MeetingHouse$Heap", "each", "[I", false)
  | 6 => ("MeetingHouse$Heap", "before", "[I", false)
  | 7 => ("MeetingHouse$Heap", "after", "[I", false)
  | 8 => ("MeetingHouse$Heap", "handles", "I", false)
  | 9 => ("MeetingHouse$Heap", "unused", "I", false)
  | 10 => ("MeetingHouse$Heap", "first", "I", false)
  | 11 => ("MeetingHouse$Heap", "last", "I", false)
  | _ => ("MeetingHouse$Heap", "top", "I", false)
def tyX2 : Nat → FieldType := fun k => match k with
  | 0 => .int
  | 1 => .array .int
  | 2 => .array .int
  | 3 => .array .int
  | 4 => .array .int
  | 5 => .array .int
  | 6 => .array .int
  | 7 => .array .int
  | 8 => .int
  | 9 => .int
  | 10 => .int
  | 11 => .int
  | _ => .int
abbrev wsX20 : List Cond := u_ws RX2 TX2 13
theorem nmX2 : ∀ a, a < 13 → ∀ b, b < 13 → a ≠ b → (TX2 a).2.1 ≠ (TX2 b).2.1 := by decide +kernel
theorem tyX2_ok : ∀ k, k < 13 → parseFieldDescriptor (TX2 k).2.2.1 = some (tyX2 k) := by decide +kernel
def RX3 : String := "MeetingHouse$Machine"
def TX3 : u_T := fun k => match k with
  | 0 => ("MeetingHouse$Machine", "begun", "Z", false)
  | 1 => ("MeetingHouse$Machine", "ended", "Z", false)
  | 2 => ("MeetingHouse$Machine", "coder", "LMeetingHouse$Coder;", true)
  | 3 => ("MeetingHouse$Machine", "text", "LMeetingHouse$Text;", true)
  | 4 => ("MeetingHouse$Machine", "heap", "LMeetingHouse$Heap;", true)
  | 5 => ("MeetingHouse$Machine", "hall", "LMeetingHouse$Hall;", true)
  | 6 => ("MeetingHouse$Machine", "rows", "[I", false)
  | 7 => ("MeetingHouse$Machine", "width", "I", false)
  | 8 => ("MeetingHouse$Machine", "stack", "[I", true)
  | 9 => ("MeetingHouse$Machine", "top", "I", false)
  | 10 => ("MeetingHouse$Machine", "current", "LMeetingHouse$Proc;", false)
  | 11 => ("MeetingHouse$Machine", "partner", "LMeetingHouse$Proc;", false)
  | 12 => ("MeetingHouse$Machine", "handing", "Z", false)
  | 13 => ("MeetingHouse$Machine", "going", "Z", false)
  | 14 => ("MeetingHouse$Machine", "mayAct", "Z", false)
  | 15 => ("MeetingHouse$Machine", "doing", "I", false)
  | 16 => ("MeetingHouse$Machine", "functions", "I", false)
  | 17 => ("MeetingHouse$Machine", "called", "I", false)
  | 18 => ("MeetingHouse$Machine", "refs", "[I", true)
  | 19 => ("MeetingHouse$Machine", "sizes", "[I", true)
  | _ => ("MeetingHouse$Machine", "scratch", "[I", true)
def tyX3 : Nat → FieldType := fun k => match k with
  | 0 => .boolean
  | 1 => .boolean
  | 2 => .object "MeetingHouse$Coder"
  | 3 => .object "MeetingHouse$Text"
  | 4 => .object "MeetingHouse$Heap"
  | 5 => .object "MeetingHouse$Hall"
  | 6 => .array .int
  | 7 => .int
  | 8 => .array .int
  | 9 => .int
  | 10 => .object "MeetingHouse$Proc"
  | 11 => .object "MeetingHouse$Proc"
  | 12 => .boolean
  | 13 => .boolean
  | 14 => .boolean
  | 15 => .int
  | 16 => .int
  | 17 => .int
  | 18 => .array .int
  | 19 => .array .int
  | _ => .array .int
abbrev wsX30 : List Cond := u_ws RX3 TX3 21
theorem nmX3 : ∀ a, a < 21 → ∀ b, b < 21 → a ≠ b → (TX3 a).2.1 ≠ (TX3 b).2.1 := by decide +kernel
theorem tyX3_ok : ∀ k, k < 21 → parseFieldDescriptor (TX3 k).2.2.1 = some (tyX3 k) := by decide +kernel
def RX4 : String := "MeetingHouse$Names"
def TX4 : u_T := fun k => match k with
  | 0 => ("MeetingHouse$Names", "kind", "[I", true)
  | 1 => ("MeetingHouse$Names", "spec", "[I", true)
  | 2 => ("MeetingHouse$Names", "number", "[I", true)
  | 3 => ("MeetingHouse$Names", "of", "[I", true)
  | 4 => ("MeetingHouse$Names", "node", "[I", true)
  | 5 => ("MeetingHouse$Names", "flags", "[I", true)
  | 6 => ("MeetingHouse$Names", "slot", "[I", true)
  | 7 => ("MeetingHouse$Names", "symbols", "I", false)
  | 8 => ("MeetingHouse$Names", "tree", "LMeetingHouse$Tree;", true)
  | 9 => ("MeetingHouse$Names", "title", "[I", true)
  | 10 => ("MeetingHouse$Names", "before", "[I", true)
  | 11 => ("MeetingHouse$Names", "latest", "[I", true)
  | 12 => ("MeetingHouse$Names", "stamps", "[I", true)
  | 13 => ("MeetingHouse$Names", "visible", "[I", true)
  | 14 => ("MeetingHouse$Names", "seen", "I", false)
  | _ => ("MeetingHouse$Names", "stamp", "I", false)
def tyX4 : Nat → FieldType := fun k => match k with
  | 0 => .array .int
  | 1 => .array .int
  | 2 => .array .int
  | 3 => .array .int
  | 4 => .array .int
  | 5 => .array .int
  | 6 => .array .int
  | 7 => .int
  | 8 => .object "MeetingHouse$Tree"
  | 9 => .array .int
  | 10 => .array .int
  | 11 => .array .int
  | 12 => .array .int
  | 13 => .array .int
  | 14 => .int
  | _ => .int
abbrev wsX40 : List Cond := u_ws RX4 TX4 16
theorem nmX4 : ∀ a, a < 16 → ∀ b, b < 16 → a ≠ b → (TX4 a).2.1 ≠ (TX4 b).2.1 := by decide +kernel
theorem tyX4_ok : ∀ k, k < 16 → parseFieldDescriptor (TX4 k).2.2.1 = some (tyX4 k) := by decide +kernel
def RX5 : String := "MeetingHouse$Proc"
def TX5 : u_T := fun k => match k with
  | 0 => ("MeetingHouse$Proc", "row", "I", true)
  | 1 => ("MeetingHouse$Proc", "number", "I", false)
  | 2 => ("MeetingHouse$Proc", "state", "I", false)
  | 3 => ("MeetingHouse$Proc", "pc", "I", false)
  | 4 => ("MeetingHouse$Proc", "line", "I", false)
  | 5 => ("MeetingHouse$Proc", "fault", "I", false)
  | 6 => ("MeetingHouse$Proc", "parent", "I", false)
  | 7 => ("MeetingHouse$Proc", "pending", "I", false)
  | 8 => ("MeetingHouse$Proc", "calls", "I", false)
  | 9 => ("MeetingHouse$Proc", "channel", "I", false)
  | 10 => ("MeetingHouse$Proc", "wake", "I", false)
  | 11 => ("MeetingHouse$Proc", "held", "[I", false)
  | 12 => ("MeetingHouse$Proc", "heldCount", "I", false)
  | 13 => ("MeetingHouse$Proc", "timed", "Z", false)
  | 14 => ("MeetingHouse$Proc", "keyed", "Z", false)
  | 15 => ("MeetingHouse$Proc", "places", "[I", true)
  | _ => ("MeetingHouse$Proc", "placeCount", "I", false)
def tyX5 : Nat → FieldType := fun k => match k with
  | 0 => .int
  | 1 => .int
  | 2 => .int
  | 3 => .int
  | 4 => .int
  | 5 => .int
  | 6 => .int
  | 7 => .int
  | 8 => .int
  | 9 => .int
  | 10 => .int
  | 11 => .array .int
  | 12 => .int
  | 13 => .boolean
  | 14 => .boolean
  | 15 => .array .int
  | _ => .int
abbrev wsX50 : List Cond := u_ws RX5 TX5 17
theorem nmX5 : ∀ a, a < 17 → ∀ b, b < 17 → a ≠ b → (TX5 a).2.1 ≠ (TX5 b).2.1 := by decide +kernel
theorem tyX5_ok : ∀ k, k < 17 → parseFieldDescriptor (TX5 k).2.2.1 = some (tyX5 k) := by decide +kernel
def RX6 : String := "MeetingHouse$Sides"
def TX6 : u_T := fun k => match k with
  | 0 => ("MeetingHouse$Sides", "tree", "LMeetingHouse$Tree;", true)
  | 1 => ("MeetingHouse$Sides", "names", "LMeetingHouse$Names;", true)
  | 2 => ("MeetingHouse$Sides", "bound", "[J", true)
  | 3 => ("MeetingHouse$Sides", "marks", "[I", true)
  | 4 => ("MeetingHouse$Sides", "mark", "I", false)
  | 5 => ("MeetingHouse$Sides", "replicators", "[I", true)
  | 6 => ("MeetingHouse$Sides", "replicatorCount", "I", false)
  | 7 => ("MeetingHouse$Sides", "values", "[I", true)
  | 8 => ("MeetingHouse$Sides", "valueCount", "I", false)
  | 9 => ("MeetingHouse$Sides", "pair", "[I", true)
  | 10 => ("MeetingHouse$Sides", "kept", "[I", true)
  | 11 => ("MeetingHouse$Sides", "ahead", "[I", true)
  | 12 => ("MeetingHouse$Sides", "rowOf", "[I", true)
  | 13 => ("MeetingHouse$Sides", "rowMark", "[I", true)
  | 14 => ("MeetingHouse$Sides", "rows", "I", false)
  | 15 => ("MeetingHouse$Sides", "parMark", "I", false)
  | _ => ("MeetingHouse$Sides", "own", "I", false)
def tyX6 : Nat → FieldType := fun k => match k with
  | 0 => .object "MeetingHouse$Tree"
  | 1 => .object "MeetingHouse$Names"
  | 2 => .array .long
  | 3 => .array .int
  | 4 => .int
  | 5 => .array .int
  | 6 => .int
  | 7 => .array .int
  | 8 => .int
  | 9 => .array .int
  | 10 => .array .int
  | 11 => .array .int
  | 12 => .array .int
  | 13 => .array .int
  | 14 => .int
  | 15 => .int
  | _ => .int
abbrev wsX60 : List Cond := u_ws RX6 TX6 17
theorem nmX6 : ∀ a, a < 17 → ∀ b, b < 17 → a ≠ b → (TX6 a).2.1 ≠ (TX6 b).2.1 := by decide +kernel
theorem tyX6_ok : ∀ k, k < 17 → parseFieldDescriptor (TX6 k).2.2.1 = some (tyX6 k) := by decide +kernel
def RX7 : String := "MeetingHouse$Text"
def TX7 : u_T := fun k => match k with
  | 0 => ("MeetingHouse$Text", "tape", "[B", true)
  | 1 => ("MeetingHouse$Text", "length", "I", false)
  | 2 => ("MeetingHouse$Text", "kind", "[I", true)
  | 3 => ("MeetingHouse$Text", "value", "[I", true)
  | 4 => ("MeetingHouse$Text", "line", "[I", true)
  | 5 => ("MeetingHouse$Text", "blanks", "[I", true)
  | 6 => ("MeetingHouse$Text", "tokens", "I", false)
  | 7 => ("MeetingHouse$Text", "lines", "I", false)
  | 8 => ("MeetingHouse$Text", "signs", "[I", true)
  | 9 => ("MeetingHouse$Text", "signsUsed", "I", false)
  | 10 => ("MeetingHouse$Text", "put", "I", false)
  | 11 => ("MeetingHouse$Text", "at", "I", false)
  | 12 => ("MeetingHouse$Text", "row", "I", false)
  | 13 => ("MeetingHouse$Text", "meant", "I", false)
  | 14 => ("MeetingHouse$Text", "letters", "[B", true)
  | 15 => ("MeetingHouse$Text", "nameFrom", "[I", true)
  | 16 => ("MeetingHouse$Text", "nameNext", "[I", true)
  | 17 => ("MeetingHouse$Text", "bucket", "[I", true)
  | _ => ("MeetingHouse$Text", "names", "I", false)
def tyX7 : Nat → FieldType := fun k => match k with
  | 0 => .array .byte
  | 1 => .int
  | 2 => .array .int
  | 3 => .array .int
  | 4 => .array .int
  | 5 => .array .int
  | 6 => .int
  | 7 => .int
  | 8 => .array .int
  | 9 => .int
  | 10 => .int
  | 11 => .int
  | 12 => .int
  | 13 => .int
  | 14 => .array .byte
  | 15 => .array .int
  | 16 => .array .int
  | 17 => .array .int
  | _ => .int
abbrev wsX70 : List Cond := u_ws RX7 TX7 19
theorem nmX7 : ∀ a, a < 19 → ∀ b, b < 19 → a ≠ b → (TX7 a).2.1 ≠ (TX7 b).2.1 := by decide +kernel
theorem tyX7_ok : ∀ k, k < 19 → parseFieldDescriptor (TX7 k).2.2.1 = some (tyX7 k) := by decide +kernel
def RX8 : String := "MeetingHouse$Tree"
def TX8 : u_T := fun k => match k with
  | 0 => ("MeetingHouse$Tree", "kind", "[I", true)
  | 1 => ("MeetingHouse$Tree", "line", "[I", true)
  | 2 => ("MeetingHouse$Tree", "a", "[I", true)
  | 3 => ("MeetingHouse$Tree", "b", "[I", true)
  | 4 => ("MeetingHouse$Tree", "c", "[I", true)
  | 5 => ("MeetingHouse$Tree", "next", "[I", true)
  | 6 => ("MeetingHouse$Tree", "val", "[I", true)
  | 7 => ("MeetingHouse$Tree", "sym", "[I", true)
  | 8 => ("MeetingHouse$Tree", "type", "[I", true)
  | 9 => ("MeetingHouse$Tree", "worth", "[I", true)
  | 10 => ("MeetingHouse$Tree", "root", "I", false)
  | 11 => ("MeetingHouse$Tree", "fault", "I", false)
  | 12 => ("MeetingHouse$Tree", "text", "LMeetingHouse$Text;", true)
  | 13 => ("MeetingHouse$Tree", "nodes", "I", false)
  | 14 => ("MeetingHouse$Tree", "at", "I", false)
  | 15 => ("MeetingHouse$Tree", "open", "I", false)
  | _ => ("MeetingHouse$Tree", "kindNode", "I", false)
def tyX8 : Nat → FieldType := fun k => match k with
  | 0 => .array .int
  | 1 => .array .int
  | 2 => .array .int
  | 3 => .array .int
  | 4 => .array .int
  | 5 => .array .int
  | 6 => .array .int
  | 7 => .array .int
  | 8 => .array .int
  | 9 => .array .int
  | 10 => .int
  | 11 => .int
  | 12 => .object "MeetingHouse$Text"
  | 13 => .int
  | 14 => .int
  | 15 => .int
  | _ => .int
abbrev wsX80 : List Cond := u_ws RX8 TX8 17
theorem nmX8 : ∀ a, a < 17 → ∀ b, b < 17 → a ≠ b → (TX8 a).2.1 ≠ (TX8 b).2.1 := by decide +kernel
theorem tyX8_ok : ∀ k, k < 17 → parseFieldDescriptor (TX8 k).2.2.1 = some (tyX8 k) := by decide +kernel
def RX9 : String := "MeetingHouse$Types"
def TX9 : u_T := fun k => match k with
  | 0 => ("MeetingHouse$Types", "told", "I", false)
  | 1 => ("MeetingHouse$Types", "tree", "LMeetingHouse$Tree;", true)
  | 2 => ("MeetingHouse$Types", "names", "LMeetingHouse$Names;", true)
  | 3 => ("MeetingHouse$Types", "marks", "[I", true)
  | 4 => ("MeetingHouse$Types", "mark", "I", false)
  | _ => ("MeetingHouse$Types", "cells", "I", false)
def tyX9 : Nat → FieldType := fun k => match k with
  | 0 => .int
  | 1 => .object "MeetingHouse$Tree"
  | 2 => .object "MeetingHouse$Names"
  | 3 => .array .int
  | 4 => .int
  | _ => .int
abbrev wsX90 : List Cond := u_ws RX9 TX9 6
theorem nmX9 : ∀ a, a < 6 → ∀ b, b < 6 → a ≠ b → (TX9 a).2.1 ≠ (TX9 b).2.1 := by decide +kernel
theorem tyX9_ok : ∀ k, k < 6 → parseFieldDescriptor (TX9 k).2.2.1 = some (tyX9 k) := by decide +kernel
def RX10 : String := "MeetingHouse$Uses"
def TX10 : u_T := fun k => match k with
  | 0 => ("MeetingHouse$Uses", "line", "[I", true)
  | 1 => ("MeetingHouse$Uses", "root", "[I", true)
  | 2 => ("MeetingHouse$Uses", "index", "[I", true)
  | 3 => ("MeetingHouse$Uses", "flags", "[I", true)
  | 4 => ("MeetingHouse$Uses", "outside", "[I", true)
  | 5 => ("MeetingHouse$Uses", "outsideFrom", "[I", true)
  | 6 => ("MeetingHouse$Uses", "outsideTo", "[I", true)
  | 7 => ("MeetingHouse$Uses", "pars", "[I", true)
  | 8 => ("MeetingHouse$Uses", "parCount", "I", false)
  | 9 => ("MeetingHouse$Uses", "tree", "LMeetingHouse$Tree;", true)
  | 10 => ("MeetingHouse$Uses", "names", "LMeetingHouse$Names;", true)
  | 11 => ("MeetingHouse$Uses", "sides", "LMeetingHouse$Sides;", true)
  | 12 => ("MeetingHouse$Uses", "gathered", "[I", true)
  | 13 => ("MeetingHouse$Uses", "touched", "[I", true)
  | 14 => ("MeetingHouse$Uses", "uses", "I", false)
  | 15 => ("MeetingHouse$Uses", "outsides", "I", false)
  | 16 => ("MeetingHouse$Uses", "functionFrom", "I", false)
  | 17 => ("MeetingHouse$Uses", "acting", "Z", false)
  | _ => ("MeetingHouse$Uses", "weight", "J", false)
def tyX10 : Nat → FieldType := fun k => match k with
  | 0 => .array .int
  | 1 => .array .int
  | 2 => .array .int
  | 3 => .array .int
  | 4 => .array .int
  | 5 => .array .int
  | 6 => .array .int
  | 7 => .array .int
  | 8 => .int
  | 9 => .object "MeetingHouse$Tree"
  | 10 => .object "MeetingHouse$Names"
  | 11 => .object "MeetingHouse$Sides"
  | 12 => .array .int
  | 13 => .array .int
  | 14 => .int
  | 15 => .int
  | 16 => .int
  | 17 => .boolean
  | _ => .long
abbrev wsX100 : List Cond := u_ws RX10 TX10 19
theorem nmX10 : ∀ a, a < 19 → ∀ b, b < 19 → a ≠ b → (TX10 a).2.1 ≠ (TX10 b).2.1 := by decide +kernel
theorem tyX10_ok : ∀ k, k < 19 → parseFieldDescriptor (TX10 k).2.2.1 = some (tyX10 k) := by decide +kernel
def RX11 : String := "MeetingHouse"
def TX11 : u_T := fun k => match k with
  | 0 => ("MeetingHouse", "text", "LMeetingHouse$Text;", true)
  | 1 => ("MeetingHouse", "tree", "LMeetingHouse$Tree;", true)
  | 2 => ("MeetingHouse", "names", "LMeetingHouse$Names;", true)
  | 3 => ("MeetingHouse", "types", "LMeetingHouse$Types;", true)
  | 4 => ("MeetingHouse", "sides", "LMeetingHouse$Sides;", true)
  | 5 => ("MeetingHouse", "uses", "LMeetingHouse$Uses;", true)
  | 6 => ("MeetingHouse", "coder", "LMeetingHouse$Coder;", true)
  | 7 => ("MeetingHouse", "machine", "LMeetingHouse$Machine;", true)
  | _ => ("MeetingHouse", "hasProgram", "Z", false)
def tyX11 : Nat → FieldType := fun k => match k with
  | 0 => .object "MeetingHouse$Text"
  | 1 => .object "MeetingHouse$Tree"
  | 2 => .object "MeetingHouse$Names"
  | 3 => .object "MeetingHouse$Types"
  | 4 => .object "MeetingHouse$Sides"
  | 5 => .object "MeetingHouse$Uses"
  | 6 => .object "MeetingHouse$Coder"
  | 7 => .object "MeetingHouse$Machine"
  | _ => .boolean
abbrev wsX110 : List Cond := u_ws RX11 TX11 9
theorem nmX11 : ∀ a, a < 9 → ∀ b, b < 9 → a ≠ b → (TX11 a).2.1 ≠ (TX11 b).2.1 := by decide +kernel
theorem tyX11_ok : ∀ k, k < 9 → parseFieldDescriptor (TX11 k).2.2.1 = some (tyX11 k) := by decide +kernel
def RX12 : String := "MeetingHouseModel$Halt"
def TX12 : u_T := fun k => match k with
  | 0 => ("java/lang/Throwable", "cause", "Ljava/lang/Throwable;", false)
  | 1 => ("java/lang/Throwable", "stackTrace", "[Ljava/lang/StackTraceElement;", false)
  | 2 => ("java/lang/Throwable", "suppressedExceptions", "Ljava/util/List;", false)
  | 3 => ("java/lang/Throwable", "detailMessage", "Ljava/lang/String;", false)
  | 4 => ("java/lang/Throwable", "backtrace", "Ljava/lang/Object;", false)
  | _ => ("java/lang/Throwable", "depth", "I", false)
def tyX12 : Nat → FieldType := fun k => match k with
  | 0 => .object "java/lang/Throwable"
  | 1 => .array (.object "java/lang/StackTraceElement")
  | 2 => .object "java/util/List"
  | 3 => .object "java/lang/String"
  | 4 => .object "java/lang/Object"
  | _ => .int
abbrev wsX120 : List Cond := u_ws RX12 TX12 6
theorem nmX12 : ∀ a, a < 6 → ∀ b, b < 6 → a ≠ b → (TX12 a).2.1 ≠ (TX12 b).2.1 := by decide +kernel
theorem tyX12_ok : ∀ k, k < 6 → parseFieldDescriptor (TX12 k).2.2.1 = some (tyX12 k) := by decide +kernel
abbrev cX12_init : ByteArray := prog_15_method_1_code
def yX12_init : MethodName := ⟨RX12, "<init>", "()V"⟩
def RX13 : String := "MeetingHouseModel"
def TX13 : u_T := fun k => match k with
  | 0 => ("MeetingHouseModel", "halt", "LMeetingHouseModel$Halt;", true)
  | 1 => ("MeetingHouseModel", "thrown", "I", false)
  | 2 => ("MeetingHouseModel", "tape", "[I", true)
  | 3 => ("MeetingHouseModel", "taped", "I", false)
  | 4 => ("MeetingHouseModel", "words", "[Ljava/lang/String;", true)
  | 5 => ("MeetingHouseModel", "signs", "[Ljava/lang/String;", true)
  | 6 => ("MeetingHouseModel", "tokens", "I", false)
  | 7 => ("MeetingHouseModel", "tKind", "[I", true)
  | 8 => ("MeetingHouseModel", "tValue", "[I", true)
  | 9 => ("MeetingHouseModel", "tLine", "[I", true)
  | 10 => ("MeetingHouseModel", "tBlanks", "[I", true)
  | 11 => ("MeetingHouseModel", "realTokens", "I", false)
  | 12 => ("MeetingHouseModel", "realLines", "I", false)
  | 13 => ("MeetingHouseModel", "names", "I", false)
  | 14 => ("MeetingHouseModel", "nameAt", "[I", true)
  | 15 => ("MeetingHouseModel", "nameSize", "[I", true)
  | 16 => ("MeetingHouseModel", "nameText", "[I", true)
  | 17 => ("MeetingHouseModel", "nameEnd", "I", false)
  | 18 => ("MeetingHouseModel", "strings", "I", false)
  | 19 => ("MeetingHouseModel", "stringAt", "[I", true)
  | 20 => ("MeetingHouseModel", "stringSize", "[I", true)
  | 21 => ("MeetingHouseModel", "stringText", "[I", true)
  | 22 => ("MeetingHouseModel", "stringEnd", "I", false)
  | 23 => ("MeetingHouseModel", "at", "I", false)
  | 24 => ("MeetingHouseModel", "value", "I", false)
  | 25 => ("MeetingHouseModel", "nodes", "I", false)
  | 26 => ("MeetingHouseModel", "kind", "[I", true)
  | 27 => ("MeetingHouseModel", "line", "[I", true)
  | 28 => ("MeetingHouseModel", "a", "[I", true)
  | 29 => ("MeetingHouseModel", "b", "[I", true)
  | 30 => ("MeetingHouseModel", "c", "[I", true)
  | 31 => ("MeetingHouseModel", "sym", "[I", true)
  | 32 => ("MeetingHouseModel", "next", "[I", true)
  | 33 => ("MeetingHouseModel", "type", "[I", true)
  | 34 => ("MeetingHouseModel", "spec", "[I", true)
  | 35 => ("MeetingHouseModel", "t", "I", false)
  | 36 => ("MeetingHouseModel", "fault", "I", false)
  | 37 => ("MeetingHouseModel", "faultLine", "I", false)
  | 38 => ("MeetingHouseModel", "open", "I", false)
  | 39 => ("MeetingHouseModel", "first", "I", false)
  | 40 => ("MeetingHouseModel", "last", "I", false)
  | 41 => ("MeetingHouseModel", "result", "[I", true)
  | 42 => ("MeetingHouseModel", "inner", "[I", true)
  | 43 => ("MeetingHouseModel", "program", "I", false)
  | 44 => ("MeetingHouseModel", "symbols", "I", false)
  | 45 => ("MeetingHouseModel", "sName", "[I", true)
  | 46 => ("MeetingHouseModel", "sKind", "[I", true)
  | 47 => ("MeetingHouseModel", "sType", "[I", true)
  | 48 => ("MeetingHouseModel", "sMany", "[I", true)
  | 49 => ("MeetingHouseModel", "sNode", "[I", true)
  | 50 => ("MeetingHouseModel", "sLine", "[I", true)
  | 51 => ("MeetingHouseModel", "sUnit", "[I", true)
  | 52 => ("MeetingHouseModel", "sSlot", "[I", true)
  | 53 => ("MeetingHouseModel", "sFormal", "[Z", true)
  | 54 => ("MeetingHouseModel", "sOf", "[I", true)
  | 55 => ("MeetingHouseModel", "sE", "[I", true)
  | 56 => ("MeetingHouseModel", "known", "I", false)
  | 57 => ("MeetingHouseModel", "knownSymbol", "[I", true)
  | 58 => ("MeetingHouseModel", "declared", "I", false)
  | 59 => ("MeetingHouseModel", "units", "I", false)
  | 60 => ("MeetingHouseModel", "unitAround", "[I", true)
  | 61 => ("MeetingHouseModel", "unitSlots", "[I", true)
  | 62 => ("MeetingHouseModel", "unit", "I", false)
  | 63 => ("MeetingHouseModel", "unitOf", "[I", true)
  | 64 => ("MeetingHouseModel", "worst", "I", false)
  | 65 => ("MeetingHouseModel", "worstLine", "I", false)
  | 66 => ("MeetingHouseModel", "symbolsFrom", "[I", true)
  | 67 => ("MeetingHouseModel", "ownFrom", "[I", true)
  | 68 => ("MeetingHouseModel", "sConstant", "[Z", true)
  | 69 => ("MeetingHouseModel", "sValue", "[I", true)
  | 70 => ("MeetingHouseModel", "tried", "[I", true)
  | 71 => ("MeetingHouseModel", "isTried", "[Z", true)
  | 72 => ("MeetingHouseModel", "failed", "I", false)
  | 73 => ("MeetingHouseModel", "many", "I", false)
  | 74 => ("MeetingHouseModel", "staticCells", "I", false)
  | 75 => ("MeetingHouseModel", "told", "I", false)
  | 76 => ("MeetingHouseModel", "weightOf", "[J", true)
  | 77 => ("MeetingHouseModel", "baseOf", "[I", true)
  | 78 => ("MeetingHouseModel", "countOf", "[I", true)
  | 79 => ("MeetingHouseModel", "weight", "J", false)
  | 80 => ("MeetingHouseModel", "effects", "I", false)
  | 81 => ("MeetingHouseModel", "effectOf", "[I", false)
  | 82 => ("MeetingHouseModel", "effectHow", "[I", false)
  | 83 => ("MeetingHouseModel", "effectFrom", "[I", true)
  | 84 => ("MeetingHouseModel", "effectTo", "[I", true)
  | 85 => ("MeetingHouseModel", "hasTalk", "[Z", true)
  | 86 => ("MeetingHouseModel", "gathered", "I", false)
  | 87 => ("MeetingHouseModel", "outside", "I", false)
  | 88 => ("MeetingHouseModel", "talks", "Z", false)
  | 89 => ("MeetingHouseModel", "placeSymbol", "I", false)
  | 90 => ("MeetingHouseModel", "placeIndex", "I", false)
  | 91 => ("MeetingHouseModel", "placeAll", "Z", false)
  | 92 => ("MeetingHouseModel", "placeBits", "[J", true)
  | 93 => ("MeetingHouseModel", "free", "I", false)
  | 94 => ("MeetingHouseModel", "freeSymbol", "[I", true)
  | 95 => ("MeetingHouseModel", "isFixed", "[Z", true)
  | 96 => ("MeetingHouseModel", "keptAt", "[I", true)
  | 97 => ("MeetingHouseModel", "keptBits", "[J", true)
  | 98 => ("MeetingHouseModel", "kept", "I", false)
  | 99 => ("MeetingHouseModel", "formalsTo", "I", false)
  | 100 => ("MeetingHouseModel", "within", "I", false)
  | 101 => ("MeetingHouseModel", "argSymbol", "[I", true)
  | 102 => ("MeetingHouseModel", "argAll", "[Z", true)
  | 103 => ("MeetingHouseModel", "argBits", "[J", true)
  | 104 => ("MeetingHouseModel", "touched", "I", false)
  | 105 => ("MeetingHouseModel", "touchedSymbol", "[I", true)
  | 106 => ("MeetingHouseModel", "aheadAll", "[Z", true)
  | 107 => ("MeetingHouseModel", "aheadBits", "[J", true)
  | 108 => ("MeetingHouseModel", "nowAll", "[Z", true)
  | 109 => ("MeetingHouseModel", "nowBits", "[J", true)
  | 110 => ("MeetingHouseModel", "there", "Z", false)
  | 111 => ("MeetingHouseModel", "heap", "[I", false)
  | 112 => ("MeetingHouseModel", "changedBy", "[I", false)
  | 113 => ("MeetingHouseModel", "usedBy", "[I", false)
  | 114 => ("MeetingHouseModel", "heapEnd", "I", false)
  | 115 => ("MeetingHouseModel", "pieces", "I", false)
  | 116 => ("MeetingHouseModel", "pieceAt", "[I", false)
  | 117 => ("MeetingHouseModel", "pieceSize", "[I", false)
  | 118 => ("MeetingHouseModel", "pages", "[[I", true)
  | 119 => ("MeetingHouseModel", "roomEnd", "I", false)
  | 120 => ("MeetingHouseModel", "gaps", "I", false)
  | 121 => ("MeetingHouseModel", "gapAt", "[I", false)
  | 122 => ("MeetingHouseModel", "gapSize", "[I", false)
  | 123 => ("MeetingHouseModel", "begun", "Z", false)
  | 124 => ("MeetingHouseModel", "ended", "Z", false)
  | 125 => ("MeetingHouseModel", "behindDeclarations", "Z", false)
  | 126 => ("MeetingHouseModel", "seed", "I", false)
  | 127 => ("MeetingHouseModel", "steps", "I", false)
  | 128 => ("MeetingHouseModel", "clock", "I", false)
  | 129 => ("MeetingHouseModel", "made", "I", false)
  | 130 => ("MeetingHouseModel", "meetings", "I", false)
  | 131 => ("MeetingHouseModel", "openCells", "I", false)
  | 132 => ("MeetingHouseModel", "clashes", "I", false)
  | 133 => ("MeetingHouseModel", "calls", "I", false)
  | 134 => ("MeetingHouseModel", "depth", "I", false)
  | 135 => ("MeetingHouseModel", "outSize", "I", false)
  | 136 => ("MeetingHouseModel", "out", "[I", true)
  | 137 => ("MeetingHouseModel", "inSize", "I", false)
  | 138 => ("MeetingHouseModel", "input", "[I", true)
  | 139 => ("MeetingHouseModel", "screenAt", "I", false)
  | 140 => ("MeetingHouseModel", "keyboardAt", "I", false)
  | 141 => ("MeetingHouseModel", "stringBase", "I", false)
  | 142 => ("MeetingHouseModel", "meeting", "[I", true)
  | 143 => ("MeetingHouseModel", "there1", "I", false)
  | 144 => ("MeetingHouseModel", "order", "[I", true)
  | 145 => ("MeetingHouseModel", "isSlot", "[Z", true)
  | 146 => ("MeetingHouseModel", "pNumber", "[I", true)
  | 147 => ("MeetingHouseModel", "pState", "[I", true)
  | 148 => ("MeetingHouseModel", "pParent", "[I", true)
  | 149 => ("MeetingHouseModel", "pFrame", "[I", true)
  | 150 => ("MeetingHouseModel", "pOwn", "[I", true)
  | 151 => ("MeetingHouseModel", "pTop", "[I", true)
  | 152 => ("MeetingHouseModel", "pLeft", "[I", true)
  | 153 => ("MeetingHouseModel", "pLine", "[I", true)
  | 154 => ("MeetingHouseModel", "pFault", "[I", true)
  | 155 => ("MeetingHouseModel", "pChannel", "[I", true)
  | 156 => ("MeetingHouseModel", "pTime", "[I", true)
  | 157 => ("MeetingHouseModel", "pBlock", "[I", true)
  | 158 => ("MeetingHouseModel", "pSize", "[I", true)
  | 159 => ("MeetingHouseModel", "pDone", "[Z", true)
  | 160 => ("MeetingHouseModel", "pCalls", "[I", true)
  | 161 => ("MeetingHouseModel", "me", "I", false)
  | 162 => ("MeetingHouseModel", "frame", "I", false)
  | 163 => ("MeetingHouseModel", "top", "I", false)
  | 164 => ("MeetingHouseModel", "here", "I", false)
  | 165 => ("MeetingHouseModel", "sheets", "[[I", true)
  | 166 => ("MeetingHouseModel", "kEnd", "I", false)
  | 167 => ("MeetingHouseModel", "kFree", "I", false)
  | 168 => ("MeetingHouseModel", "arrayAt", "I", false)
  | 169 => ("MeetingHouseModel", "arraySize", "I", false)
  | 170 => ("MeetingHouseModel", "tables", "I", false)
  | 171 => ("MeetingHouseModel", "tableAt", "[I", false)
  | 172 => ("MeetingHouseModel", "tableSize", "[I", false)
  | 173 => ("MeetingHouseModel", "isOuter", "Z", false)
  | 174 => ("MeetingHouseModel", "vTop", "I", false)
  | 175 => ("MeetingHouseModel", "vAt", "[I", false)
  | 176 => ("MeetingHouseModel", "vSize", "[I", false)
  | 177 => ("MeetingHouseModel", "second", "I", false)
  | 178 => ("MeetingHouseModel", "secondPops", "Z", false)
  | _ => ("MeetingHouseModel", "outer", "I", false)
def tyX13 : Nat → FieldType := fun k => match k with
  | 0 => .object "MeetingHouseModel$Halt"
  | 1 => .int
  | 2 => .array .int
  | 3 => .int
  | 4 => .array (.object "java/lang/String")
  | 5 => .array (.object "java/lang/String")
  | 6 => .int
  | 7 => .array .int
  | 8 => .array .int
  | 9 => .array .int
  | 10 => .array .int
  | 11 => .int
  | 12 => .int
  | 13 => .int
  | 14 => .array .int
  | 15 => .array .int
  | 16 => .array .int
  | 17 => .int
  | 18 => .int
  | 19 => .array .int
  | 20 => .array .int
  | 21 => .array .int
  | 22 => .int
  | 23 => .int
  | 24 => .int
  | 25 => .int
  | 26 => .array .int
  | 27 => .array .int
  | 28 => .array .int
  | 29 => .array .int
  | 30 => .array .int
  | 31 => .array .int
  | 32 => .array .int
  | 33 => .array .int
  | 34 => .array .int
  | 35 => .int
  | 36 => .int
  | 37 => .int
  | 38 => .int
  | 39 => .int
  | 40 => .int
  | 41 => .array .int
  | 42 => .array .int
  | 43 => .int
  | 44 => .int
  | 45 => .array .int
  | 46 => .array .int
  | 47 => .array .int
  | 48 => .array .int
  | 49 => .array .int
  | 50 => .array .int
  | 51 => .array .int
  | 52 => .array .int
  | 53 => .array .boolean
  | 54 => .array .int
  | 55 => .array .int
  | 56 => .int
  | 57 => .array .int
  | 58 => .int
  | 59 => .int
  | 60 => .array .int
  | 61 => .array .int
  | 62 => .int
  | 63 => .array .int
  | 64 => .int
  | 65 => .int
  | 66 => .array .int
  | 67 => .array .int
  | 68 => .array .boolean
  | 69 => .array .int
  | 70 => .array .int
  | 71 => .array .boolean
  | 72 => .int
  | 73 => .int
  | 74 => .int
  | 75 => .int
  | 76 => .array .long
  | 77 => .array .int
  | 78 => .array .int
  | 79 => .long
  | 80 => .int
  | 81 => .array .int
  | 82 => .array .int
  | 83 => .array .int
  | 84 => .array .int
  | 85 => .array .boolean
  | 86 => .int
  | 87 => .int
  | 88 => .boolean
  | 89 => .int
  | 90 => .int
  | 91 => .boolean
  | 92 => .array .long
  | 93 => .int
  | 94 => .array .int
  | 95 => .array .boolean
  | 96 => .array .int
  | 97 => .array .long
  | 98 => .int
  | 99 => .int
  | 100 => .int
  | 101 => .array .int
  | 102 => .array .boolean
  | 103 => .array .long
  | 104 => .int
  | 105 => .array .int
  | 106 => .array .boolean
  | 107 => .array .long
  | 108 => .array .boolean
  | 109 => .array .long
  | 110 => .boolean
  | 111 => .array .int
  | 112 => .array .int
  | 113 => .array .int
  | 114 => .int
  | 115 => .int
  | 116 => .array .int
  | 117 => .array .int
  | 118 => .array (.array .int)
  | 119 => .int
  | 120 => .int
  | 121 => .array .int
  | 122 => .array .int
  | 123 => .boolean
  | 124 => .boolean
  | 125 => .boolean
  | 126 => .int
  | 127 => .int
  | 128 => .int
  | 129 => .int
  | 130 => .int
  | 131 => .int
  | 132 => .int
  | 133 => .int
  | 134 => .int
  | 135 => .int
  | 136 => .array .int
  | 137 => .int
  | 138 => .array .int
  | 139 => .int
  | 140 => .int
  | 141 => .int
  | 142 => .array .int
  | 143 => .int
  | 144 => .array .int
  | 145 => .array .boolean
  | 146 => .array .int
  | 147 => .array .int
  | 148 => .array .int
  | 149 => .array .int
  | 150 => .array .int
  | 151 => .array .int
  | 152 => .array .int
  | 153 => .array .int
  | 154 => .array .int
  | 155 => .array .int
  | 156 => .array .int
  | 157 => .array .int
  | 158 => .array .int
  | 159 => .array .boolean
  | 160 => .array .int
  | 161 => .int
  | 162 => .int
  | 163 => .int
  | 164 => .int
  | 165 => .array (.array .int)
  | 166 => .int
  | 167 => .int
  | 168 => .int
  | 169 => .int
  | 170 => .int
  | 171 => .array .int
  | 172 => .array .int
  | 173 => .boolean
  | 174 => .int
  | 175 => .array .int
  | 176 => .array .int
  | 177 => .int
  | 178 => .boolean
  | _ => .int
abbrev wsX130 : List Cond := u_ws RX13 TX13 180
theorem nmX13 : ∀ a, a < 180 → ∀ b, b < 180 → a ≠ b → (TX13 a).2.1 ≠ (TX13 b).2.1 := by decide +kernel
theorem tyX13_ok : ∀ k, k < 180 → parseFieldDescriptor (TX13 k).2.2.1 = some (tyX13 k) := by decide +kernel
abbrev cX13_init : ByteArray := prog_14_method_1_code
def yX13_init : MethodName := ⟨RX13, "<init>", "()V"⟩
def RJ0 : String := "java/lang/String"
theorem dX12_init_0 : decode cX12_init 0 = .ok (.aload_n 0, 1) := by decide +kernel
theorem dX12_init_1 : decode cX12_init 1 = .ok (.ldc 1, 2) := by decide +kernel
theorem dX12_init_3 : decode cX12_init 3 = .ok (.aconst_null, 1) := by decide +kernel
theorem dX12_init_4 : decode cX12_init 4 = .ok (.iconst 0, 1) := by decide +kernel
theorem dX12_init_5 : decode cX12_init 5 = .ok (.iconst 0, 1) := by decide +kernel
theorem dX12_init_6 : decode cX12_init 6 = .ok (.invokespecial 3, 3) := by decide +kernel
theorem dX12_init_9 : decode cX12_init 9 = .ok (.return_, 1) := by decide +kernel
abbrev vwCl : List vw_C := [(RX0, TX0, 8), (RX1, TX1, 16), (RX2, TX2, 13), (RX3, TX3, 21), (RX4, TX4, 16), (RX5, TX5, 17), (RX6, TX6, 17), (RX7, TX7, 19), (RX8, TX8, 17), (RX9, TX9, 6), (RX10, TX10, 19), (RX11, TX11, 9), (RX12, TX12, 6), (RX13, TX13, 180)]
def RTh : String := "java/lang/Throwable"
def REx : String := "java/lang/Exception"
def RRt : String := "java/lang/RuntimeException"
abbrev cT4 : ByteArray := prog_27_method_5_code
abbrev cE4 : ByteArray := prog_18_method_5_code
abbrev cR4 : ByteArray := prog_22_method_5_code
def yT4 : MethodName := ⟨RTh, "<init>", "(Ljava/lang/String;Ljava/lang/Throwable;ZZ)V"⟩
def yE4 : MethodName := ⟨REx, "<init>", "(Ljava/lang/String;Ljava/lang/Throwable;ZZ)V"⟩
def yR4 : MethodName := ⟨RRt, "<init>", "(Ljava/lang/String;Ljava/lang/Throwable;ZZ)V"⟩
theorem dT4_0 : decode cT4 0 = .ok (.aload_n 0, 1) := by decide +kernel
theorem dT4_1 : decode cT4 1 = .ok (.invokespecial 1, 3) := by decide +kernel
theorem dT4_4 : decode cT4 4 = .ok (.aload_n 0, 1) := by decide +kernel
theorem dT4_5 : decode cT4 5 = .ok (.aload_n 0, 1) := by decide +kernel
theorem dT4_6 : decode cT4 6 = .ok (.putfield 7, 3) := by decide +kernel
theorem dT4_9 : decode cT4 9 = .ok (.aload_n 0, 1) := by decide +kernel
theorem dT4_10 : decode cT4 10 = .ok (.getstatic 13, 3) := by decide +kernel
theorem dT4_13 : decode cT4 13 = .ok (.putfield 17, 3) := by decide +kernel
theorem dT4_16 : decode cT4 16 = .ok (.aload_n 0, 1) := by decide +kernel
theorem dT4_17 : decode cT4 17 = .ok (.getstatic 20, 3) := by decide +kernel
theorem dT4_20 : decode cT4 20 = .ok (.putfield 24, 3) := by decide +kernel
theorem dT4_23 : decode cT4 23 = .ok (.iload 4, 2) := by decide +kernel
theorem dT4_25 : decode cT4 25 = .ok (.ifCond .eq 11, 3) := by decide +kernel
theorem dT4_28 : decode cT4 28 = .ok (.aload_n 0, 1) := by decide +kernel
theorem dT4_29 : decode cT4 29 = .ok (.invokevirtual 27, 3) := by decide +kernel
theorem dT4_32 : decode cT4 32 = .ok (.pop, 1) := by decide +kernel
theorem dT4_33 : decode cT4 33 = .ok (.goto 8, 3) := by decide +kernel
theorem dT4_36 : decode cT4 36 = .ok (.aload_n 0, 1) := by decide +kernel
theorem dT4_37 : decode cT4 37 = .ok (.aconst_null, 1) := by decide +kernel
theorem dT4_38 : decode cT4 38 = .ok (.putfield 17, 3) := by decide +kernel
theorem dT4_41 : decode cT4 41 = .ok (.aload_n 0, 1) := by decide +kernel
theorem dT4_42 : decode cT4 42 = .ok (.aload_n 1, 1) := by decide +kernel
theorem dT4_43 : decode cT4 43 = .ok (.putfield 31, 3) := by decide +kernel
theorem dT4_46 : decode cT4 46 = .ok (.aload_n 0, 1) := by decide +kernel
theorem dT4_47 : decode cT4 47 = .ok (.aload_n 2, 1) := by decide +kernel
theorem dT4_48 : decode cT4 48 = .ok (.putfield 7, 3) := by decide +kernel
theorem dT4_51 : decode cT4 51 = .ok (.iload_n 3, 1) := by decide +kernel
theorem dT4_52 : decode cT4 52 = .ok (.ifCond .ne 8, 3) := by decide +kernel
theorem dT4_55 : decode cT4 55 = .ok (.aload_n 0, 1) := by decide +kernel
theorem dT4_56 : decode cT4 56 = .ok (.aconst_null, 1) := by decide +kernel
theorem dT4_57 : decode cT4 57 = .ok (.putfield 24, 3) := by decide +kernel
theorem dT4_60 : decode cT4 60 = .ok (.return_, 1) := by decide +kernel
theorem dE4_0 : decode cE4 0 = .ok (.aload_n 0, 1) := by decide +kernel
theorem dE4_1 : decode cE4 1 = .ok (.aload_n 1, 1) := by decide +kernel
theorem dE4_2 : decode cE4 2 = .ok (.aload_n 2, 1) := by decide +kernel
theorem dE4_3 : decode cE4 3 = .ok (.iload_n 3, 1) := by decide +kernel
theorem dE4_4 : decode cE4 4 = .ok (.iload 4, 2) := by decide +kernel
theorem dE4_6 : decode cE4 6 = .ok (.invokespecial 16, 3) := by decide +kernel
theorem dE4_9 : decode cE4 9 = .ok (.return_, 1) := by decide +kernel
theorem dR4_0 : decode cR4 0 = .ok (.aload_n 0, 1) := by decide +kernel
theorem dR4_1 : decode cR4 1 = .ok (.aload_n 1, 1) := by decide +kernel
theorem dR4_2 : decode cR4 2 = .ok (.aload_n 2, 1) := by decide +kernel
theorem dR4_3 : decode cR4 3 = .ok (.iload_n 3, 1) := by decide +kernel
theorem dR4_4 : decode cR4 4 = .ok (.iload 4, 2) := by decide +kernel
theorem dR4_6 : decode cR4 6 = .ok (.invokespecial 16, 3) := by decide +kernel
theorem dR4_9 : decode cR4 9 = .ok (.return_, 1) := by decide +kernel
end
section
/-! names of methods -/
abbrev cX0_init : ByteArray := prog_2_method_1_code
def yX0_init : MethodName := ⟨RX0, "<init>", "(LMeetingHouse$Tree;LMeetingHouse$Names;)V"⟩
abbrev cX1_init : ByteArray := prog_3_method_1_code
def yX1_init : MethodName := ⟨RX1, "<init>", "()V"⟩
abbrev cX2_init : ByteArray := prog_4_method_1_code
def yX2_init : MethodName := ⟨RX2, "<init>", "()V"⟩
abbrev cX3_init : ByteArray := prog_5_method_1_code
def yX3_init : MethodName := ⟨RX3, "<init>", "(LMeetingHouse$Coder;LMeetingHouse$Text;)V"⟩
abbrev cX3_press : ByteArray := prog_5_method_4_code
def yX3_press : MethodName := ⟨RX3, "press", "(I)Z"⟩
abbrev cX3_tally : ByteArray := prog_5_method_49_code
def yX3_tally : MethodName := ⟨RX3, "tally", "(I)I"⟩
abbrev cX3_shown : ByteArray := prog_5_method_50_code
def yX3_shown : MethodName := ⟨RX3, "shown", "(I)I"⟩
abbrev cX3_tellMeeting : ByteArray := prog_5_method_51_code
def yX3_tellMeeting : MethodName := ⟨RX3, "tellMeeting", "(II)I"⟩
abbrev cX3_tellProcess : ByteArray := prog_5_method_52_code
def yX3_tellProcess : MethodName := ⟨RX3, "tellProcess", "(II)I"⟩
abbrev cX3_tellCell : ByteArray := prog_5_method_53_code
def yX3_tellCell : MethodName := ⟨RX3, "tellCell", "(I)I"⟩
abbrev cX4_init : ByteArray := prog_6_method_1_code
def yX4_init : MethodName := ⟨RX4, "<init>", "(LMeetingHouse$Tree;)V"⟩
abbrev cX5_init : ByteArray := prog_7_method_1_code
def yX5_init : MethodName := ⟨RX5, "<init>", "(I)V"⟩
abbrev cX6_init : ByteArray := prog_8_method_1_code
def yX6_init : MethodName := ⟨RX6, "<init>", "(LMeetingHouse$Tree;LMeetingHouse$Names;)V"⟩
abbrev cX7_init : ByteArray := prog_9_method_1_code
def yX7_init : MethodName := ⟨RX7, "<init>", "()V"⟩
abbrev cX7_append : ByteArray := prog_9_method_2_code
def yX7_append : MethodName := ⟨RX7, "append", "(I)V"⟩
abbrev cX8_init : ByteArray := prog_10_method_1_code
def yX8_init : MethodName := ⟨RX8, "<init>", "(LMeetingHouse$Text;)V"⟩
abbrev cX9_init : ByteArray := prog_11_method_1_code
def yX9_init : MethodName := ⟨RX9, "<init>", "(LMeetingHouse$Tree;LMeetingHouse$Names;)V"⟩
abbrev cX10_init : ByteArray := prog_12_method_1_code
def yX10_init : MethodName := ⟨RX10, "<init>", "(LMeetingHouse$Tree;LMeetingHouse$Names;LMeetingHouse$Sides;)V"⟩
abbrev cX11_init : ByteArray := prog_1_method_1_code
def yX11_init : MethodName := ⟨RX11, "<init>", "()V"⟩
abbrev cX11_feed : ByteArray := prog_1_method_2_code
def yX11_feed : MethodName := ⟨RX11, "feed", "(IIIII)I"⟩
abbrev cX11_back : ByteArray := prog_1_method_3_code
def yX11_back : MethodName := ⟨RX11, "back", "(I)I"⟩
abbrev cX11_count : ByteArray := prog_1_method_5_code
def yX11_count : MethodName := ⟨RX11, "count", "(I)I"⟩
abbrev cX11_key : ByteArray := prog_1_method_8_code
def yX11_key : MethodName := ⟨RX11, "key", "(I)Z"⟩
abbrev cX11_output : ByteArray := prog_1_method_9_code
def yX11_output : MethodName := ⟨RX11, "output", "(I)I"⟩
abbrev cX11_process : ByteArray := prog_1_method_10_code
def yX11_process : MethodName := ⟨RX11, "process", "(II)I"⟩
abbrev cX11_cell : ByteArray := prog_1_method_11_code
def yX11_cell : MethodName := ⟨RX11, "cell", "(I)I"⟩
abbrev cX11_meeting : ByteArray := prog_1_method_12_code
def yX11_meeting : MethodName := ⟨RX11, "meeting", "(II)I"⟩
abbrev cX11_clashes : ByteArray := prog_1_method_13_code
def yX11_clashes : MethodName := ⟨RX11, "clashes", "()I"⟩
abbrev cX13_thrown : ByteArray := prog_14_method_2_code
def yX13_thrown : MethodName := ⟨RX13, "thrown", "()I"⟩
abbrev cX13_feed : ByteArray := prog_14_method_3_code
def yX13_feed : MethodName := ⟨RX13, "feed", "(IIIII)I"⟩
abbrev cX13_put : ByteArray := prog_14_method_4_code
def yX13_put : MethodName := ⟨RX13, "put", "(I)V"⟩
abbrev cX13_back : ByteArray := prog_14_method_5_code
def yX13_back : MethodName := ⟨RX13, "back", "(I)I"⟩
abbrev cX13_token : ByteArray := prog_14_method_10_code
def yX13_token : MethodName := ⟨RX13, "token", "(IIII)V"⟩
abbrev cX13_scanAll : ByteArray := prog_14_method_18_code
def yX13_scanAll : MethodName := ⟨RX13, "scanAll", "()V"⟩
abbrev cX13_stop : ByteArray := prog_14_method_20_code
def yX13_stop : MethodName := ⟨RX13, "stop", "(I)LMeetingHouseModel$Halt;"⟩
abbrev cX13_look : ByteArray := prog_14_method_21_code
def yX13_look : MethodName := ⟨RX13, "look", "()I"⟩
abbrev cX13_isAt : ByteArray := prog_14_method_26_code
def yX13_isAt : MethodName := ⟨RX13, "isAt", "(I)Z"⟩
abbrev cX13_lineAt : ByteArray := prog_14_method_33_code
def yX13_lineAt : MethodName := ⟨RX13, "lineAt", "(II)V"⟩
abbrev cX13_process : ByteArray := prog_14_method_36_code
def yX13_process : MethodName := ⟨RX13, "process", "(I)I"⟩
abbrev cX13_parses : ByteArray := prog_14_method_69_code
def yX13_parses : MethodName := ⟨RX13, "parses", "()Z"⟩
abbrev cX13_read : ByteArray := prog_14_method_171_code
def yX13_read : MethodName := ⟨RX13, "read", "()I"⟩
abbrev cX13_state : ByteArray := prog_14_method_260_code
def yX13_state : MethodName := ⟨RX13, "state", "()I"⟩
abbrev cX13_begin : ByteArray := prog_14_method_261_code
def yX13_begin : MethodName := ⟨RX13, "begin", "(I)V"⟩
abbrev cX13_run : ByteArray := prog_14_method_262_code
def yX13_run : MethodName := ⟨RX13, "run", "(I)I"⟩
abbrev cX13_key : ByteArray := prog_14_method_263_code
def yX13_key : MethodName := ⟨RX13, "key", "(I)Z"⟩
abbrev cX13_count : ByteArray := prog_14_method_264_code
def yX13_count : MethodName := ⟨RX13, "count", "(I)I"⟩
abbrev cX13_output : ByteArray := prog_14_method_265_code
def yX13_output : MethodName := ⟨RX13, "output", "(I)I"⟩
abbrev cX13_process_ : ByteArray := prog_14_method_266_code
def yX13_process_ : MethodName := ⟨RX13, "process", "(II)I"⟩
abbrev cX13_cell : ByteArray := prog_14_method_267_code
def yX13_cell : MethodName := ⟨RX13, "cell", "(I)I"⟩
abbrev cX13_meeting : ByteArray := prog_14_method_268_code
def yX13_meeting : MethodName := ⟨RX13, "meeting", "(II)I"⟩
abbrev cX13_clashes : ByteArray := prog_14_method_269_code
def yX13_clashes : MethodName := ⟨RX13, "clashes", "()I"⟩
end
section
/-! ===== BEGIN words of one list among another's, by their places ===== -/
theorem goodIn_r {big : List Cond} (ws : List Cond) (ps : List Nat) (hp : ws = ps.filterMap (fun i => big[i]?)) (h : ws.all goodWord = true) : GoodIn big ws := by
  intro w hw
  have h1 := List.all_eq_true.mp h w hw
  rw [hp] at hw
  obtain ⟨i, -, hi⟩ := List.mem_filterMap.mp hw
  have hm : w ∈ big := by first | exact List.mem_of_getElem? hi | exact List.getElem?_mem hi
  exact ⟨hm, good_of_word h1⟩
theorem goodIn_app {big a b : List Cond} (ha : GoodIn big a) (hb : GoodIn big b) : GoodIn big (a ++ b) := fun w h => (List.mem_append.mp h).elim (ha w) (hb w)
theorem goodIn_ca {big a b : List Cond} {c : Cond} (ha : GoodIn big (c :: a)) (hb : GoodIn big b) : GoodIn big (c :: (a ++ b)) := fun w h => (List.mem_cons.mp h).elim (fun e => ha w (List.mem_cons.mpr (Or.inl e))) (fun h => (List.mem_append.mp h).elim (fun h => ha w (List.mem_cons.mpr (Or.inr h))) (hb w))
theorem goodIn_sub {big ws : List Cond} (hm : ∀ w ∈ ws, w ∈ big) (h : ws.all goodWord = true) : GoodIn big ws := fun w hw => ⟨hm w hw, good_of_word (List.all_eq_true.mp h w hw)⟩
/-! ===== END ===== -/

/-! ===== BEGIN exceptions that leave a method, and their catching by the caller (launches without stack traces) ===== -/
section VXA
/-! The laws vx_back, vx_callV, vx_callS, vx_callSW, vx_throw0, vx_throwS follow proofs of the library, with one case more: JvmDerived/Free/Laws.lean (Back.of_free), Shelf42/LK1.lean (callV, callS), Shelf/KitTraced.lean (throwNew0V, throwNewS). -/
/-- where a method has thrown q: the class by its name, the cell, what was written, the world -/
def vx_T (XC : String → State → State → Prop) (st : State) (q : Addr) (t : State) (mc ms : Nat) (free : Addr → Prop) : Prop :=
  ∃ (E : String) (ce : Cell) (L : List Loc), XC E st t ∧ t.heap[q]? = some ce ∧ ce.vm = .none ∧ st.vm.findClass E = some ce.cls ∧ st.WarmedH t.vm ∧ st.sameButNew ({ t with vm := st.vm } : State) L mc ms ∧ ∀ z ∈ L, free z.base
def vx_Q (Qc : Array Value → State → Outcome → State → Prop) (XC : String → State → State → Prop) (mc ms : Nat) (free : Addr → Prop) : Array Value → State → Outcome → State → Prop := fun a st o t =>
  (Qc a st o t ∧ ∃ L, FrameEnd st o t L mc ms ∧ ∀ q ∈ L, free q.base) ∨ ∃ q, o = .threw q ∧ vx_T XC st q t mc ms free
/-- a callee that returns or throws -/
def vx_Met (l : Launch) (y : MethodName) (ws : List Cond) (rm : Room) (Pc : Array Value → State → Prop) (Qc : Array Value → State → Outcome → State → Prop) (XC : String → State → State → Prop) (mc ms : Nat) (free : Addr → Prop) : Prop :=
  MetFree l y (headSpec ws rm) Pc (fun _ _ _ _ _ => True) (vx_Q Qc XC mc ms free)
def vx_Post (XC : String → State → State → Prop) (mc ms : Nat) (free : Addr → Prop) : Pt → Array Value → Addr → Pt → Prop := fun A a q B =>
  ∃ (g : JFrame) (mk : MethodId) (t : State) (L : List Loc) (E : String) (ce : Cell), B.U.heap = t.heap ∧ B.U.vm = t.vm ∧ XC E (A.U.calling g mk a) t ∧ t.heap[q]? = some ce ∧ ce.vm = .none ∧ A.U.vm.findClass E = some ce.cls ∧ B.locs = A.locs ++ L ∧ (∀ z ∈ L, free z.base) ∧ B.cells = A.cells + mc ∧ B.slots = A.slots + ms
def vx_Back (l : Launch) (R : Room) (p : Program) (e : Env) (below : List Frame) (s : State) (sargs : Array Value) (y : MethodName) (len W9 : Nat)
    (Pre : Pt → Array Value → Prop) (Post : Pt → Array Value → Option Value → Pt → Prop) (PostX : Pt → Array Value → Addr → Pt → Prop) : Prop :=
  ∀ (m : MethodId) (meth : Method) (c : Code) (A : Pt) (g : JFrame) (ig : Instr) (mk : MethodId) (a : Array Value),
    Stand p l e R s m sargs below meth c A.U A.locs A.cells A.slots → g.method = m → g.locals.size = c.maxLocals → decode c.code g.pc = .ok (ig, len) →
    2 * g.monitorRoom + (g.stack.map fun v => v.category).sum ≤ W9 → A.U.methodNamed? y = some mk → Pre A a →
    (∃ (v : Option Value) (B : Pt), Stand p l e R s m sargs below meth c B.U B.locs B.cells B.slots ∧ Post A a v B ∧
      Steps p.tables e below (doInvoke e (A.U.setTop g) [] mk a).1 (B.U.setTop { g with pc := g.pc + len, stack := v.toList ++ g.stack })) ∨
    (∃ (q : Addr) (B : Pt), Stand p l e R s m sargs below meth c B.U B.locs B.cells B.slots ∧ PostX A a q B ∧
      Steps p.tables e below (doInvoke e (A.U.setTop g) [] mk a).1 ((B.U.setTop g).pushFrame (.throwing q)))
section Payer
variable {l : Launch} {R : Room} {p : Program} {e : Env} {below : List Frame} {s : State} {sargs : Array Value} {y : MethodName} {len W9 : Nat}
theorem vx_back {ws : List Cond} {rm : Room} {Pc : Array Value → State → Prop} {Qc : Array Value → State → Outcome → State → Prop} {XC : String → State → State → Prop} {mc ms : Nat} {free : Addr → Prop} {bytes : ByteArray} {maxL : Nat} {ret : Option FieldType}
    (hM : vx_Met l y ws rm Pc Qc XC mc ms free) (hblind : FrameBlind Pc) (hrc : rm.cells = mc) (hrs : rm.slots = ms)
    (hframes : rm.frames + 1 ≤ R.frames) (hlocals : W9 + (maxL + 11) + rm.locals ≤ R.locals)
    (hws : ∀ w ∈ ws, ∀ a' U, s.WarmedH U.vm → w.before a' U = true) (hcode : Cond.code y bytes maxL ret ∈ ws) (hinit : ∀ a' U, s.WarmedH U.vm → (Cond.initialized y.cls).before a' U = true) :
    vx_Back l R p e below s sargs y len W9 (PreOf R mc ms Pc) (PostOf Qc mc ms free) (vx_Post XC mc ms free) := by
  intro m meth c A g ig mk a X hg hsize hdg hW hn hp
  have h1 : (headSpec ws rm).pre.before a A.U = true := atoms_intro fun w hw => hws w hw _ _ X.warmed
  have h2 : (Cond.code y bytes maxL ret).before a A.U = true := hws _ hcode _ _ X.warmed
  have h3 : (Cond.initialized y.cls).before a A.U = true := hinit _ _ X.warmed
  have h4 : A.cells + (headSpec ws rm).room.cells ≤ R.cells := by rw [show (headSpec ws rm).room.cells = mc from hrc]; exact hp.1
  have h5 : A.slots + (headSpec ws rm).room.slots ≤ R.slots := by rw [show (headSpec ws rm).room.slots = ms from hrs]; exact hp.2.1
  have hPc : Pc a (A.U.calling g mk a) := hblind _ _ _ _ hp.2.2
  obtain ⟨U, Ls, c0, s0⟩ := A
  dsimp only [Pt.U, Pt.locs, Pt.cells, Pt.slots] at h1 h2 h3 h4 h5 X hn hPc ⊢
  obtain ⟨methY, cY, hmY, hcY, -, hlY, -, -, -, -⟩ := Cond.code_spec hn h2
  obtain ⟨kY, hkY, -⟩ := className_of_methodNamed hn
  have hinitY : kY.init = .initialized := Cond.initialized_spec (findClass_of_methodNamed hn) hkY h3
  have h : At U g.method c below := by rw [hg]; exact X.here
  have hlocals9 : W9 + (maxL + 11) + (headSpec ws rm).room.locals ≤ R.locals := hlocals
  have happ : (headSpec ws rm).appliesLoose y e.platform (U.calling g mk a) = true :=
    Spec.appliesLoose_calling (g := g) h hdg hn hkY hinitY
      (X.room_calling (g := g) (R' := (headSpec ws rm).room) hsize hmY hcY hframes (by rw [hlY]; omega) h4 h5) h1
  obtain ⟨mid, hmid⟩ := h.above
  have hfr : (U.setTop g).frames = (.java g :: mid) ++ below := by rw [State.frames_setTop' g h.top, hmid]; rfl
  obtain ⟨o, s₂, hsteps, -, hend, hq⟩ := Steps.callFree hM p X.admits X.cas X.clock (acts := []) hfr happ hPc trivial
  have hq' : vx_Q Qc XC mc ms free a (U.calling g mk a) o s₂ := hq
  rw [State.frames_setTop' g h.top] at hend
  obtain ⟨g₀, hg0⟩ := Option.isSome_iff_exists.mp h.top
  obtain ⟨r, hr⟩ := State.topJava?_eq_some.mp hg0
  have hr' : (({ U with heap := s₂.heap, slotsUsed := s₂.slotsUsed } : State).setVm s₂.vm).frames = .java g₀ :: r := hr
  rcases hq' with ⟨hqc, L, hfe, hL⟩ | ⟨q, rfl, E, ce, L, hx, hce, hcv, hcl, hW₂, hsm, hL⟩
  · obtain ⟨⟨v, rfl⟩, hW₂, e2, q2, q3, q4, q5, q6⟩ := id hfe
    have e3 : s₂ = ({ (U.calling g mk a).setFrames s₂.frames with heap := s₂.heap, slotsUsed := s₂.slotsUsed } : State).setVm s₂.vm := by
      have : s₂ = ({ s₂ with vm := (U.calling g mk a).vm } : State).setVm s₂.vm := rfl
      rw [e2] at this
      exact this
    obtain ⟨c₂, i₂, len₂, hc₂, hd₂, hf₂⟩ := hend
    have hW' : U.WarmedH s₂.vm := hW₂
    have hcc : c₂ = c := by
      have h1 : s₂.code? g.method = U.code? g.method := by
        rw [State.code?_eq, State.code?_eq, hW'.alike.method?]
      exact Option.some.inj (hc₂.symm.trans (h1.trans h.code))
    subst hcc
    have hlen : len₂ = len := by rw [hdg] at hd₂; cases hd₂; rfl
    subst hlen
    have hs₂ : s₂ = (({ U with heap := s₂.heap, slotsUsed := s₂.slotsUsed } : State).setVm s₂.vm).setTop { g with pc := g.pc + len₂, stack := v.toList ++ g.stack } := by
      refine e3.trans ?_
      rw [hf₂, State.calling_eq h.top, State.setFrames_setFrames, State.setTop_of_frames _ hr', hr]
      rfl
    have hsame : U.sameButNew ({ U with heap := s₂.heap, slotsUsed := s₂.slotsUsed } : State) L mc ms := by
      refine ⟨?_, q2, q3, q4, q5, q6⟩
      obtain ⟨t, ht, -⟩ := State.frames_cons hr
      show ({ U with heap := s₂.heap, slotsUsed := s₂.slotsUsed } : State) = { U.setFrames U.frames with heap := s₂.heap, slotsUsed := s₂.slotsUsed }
      rw [State.setFrames_self ht]
    subst hg
    refine Or.inl ⟨v, ⟨(({ U with heap := s₂.heap, slotsUsed := s₂.slotsUsed } : State).setVm s₂.vm), Ls ++ L, c0 + mc, s0 + ms⟩,
      ⟨X.admits, X.cas, X.clock, X.frames, X.room, X.hears, X.method, X.code, (X.here.setHeapUsed s₂.heap s₂.slotsUsed).setVm hW'.alike, X.tail, State.WarmedH.trans X.warmed hW', X.limits, X.bytes, X.same.trans (hsame.setVm s.vm)⟩,
      ⟨g, mk, s₂, L, rfl, rfl, hqc, rfl, hL, rfl, rfl⟩, ?_⟩
    show Steps p.tables e below _ ((({ U with heap := s₂.heap, slotsUsed := s₂.slotsUsed } : State).setVm s₂.vm).setTop { g with pc := g.pc + len₂, stack := v.toList ++ g.stack })
    rw [← hs₂]
    exact hsteps
  · obtain ⟨e2, q2, q3, q4, q5, q6⟩ := id hsm
    have e3 : s₂ = ({ (U.calling g mk a).setFrames s₂.frames with heap := s₂.heap, slotsUsed := s₂.slotsUsed } : State).setVm s₂.vm := by
      have : s₂ = ({ s₂ with vm := (U.calling g mk a).vm } : State).setVm s₂.vm := rfl
      rw [e2] at this
      exact this
    have hf₂ : s₂.frames = .throwing q :: .java g :: U.frames.tail := hend
    have hW' : U.WarmedH s₂.vm := hW₂
    have hs₂ : s₂ = ((({ U with heap := s₂.heap, slotsUsed := s₂.slotsUsed } : State).setVm s₂.vm).setTop g).pushFrame (.throwing q) := by
      refine e3.trans ?_
      rw [hf₂, State.calling_eq h.top, State.setFrames_setFrames, State.pushFrame, State.frames_setTop _ hr', State.setTop_of_frames _ hr', State.setFrames_setFrames, hr]
      rfl
    have hsame : U.sameButNew ({ U with heap := s₂.heap, slotsUsed := s₂.slotsUsed } : State) L mc ms := by
      refine ⟨?_, q2, q3, q4, q5, q6⟩
      obtain ⟨t, ht, -⟩ := State.frames_cons hr
      show ({ U with heap := s₂.heap, slotsUsed := s₂.slotsUsed } : State) = { U.setFrames U.frames with heap := s₂.heap, slotsUsed := s₂.slotsUsed }
      rw [State.setFrames_self ht]
    subst hg
    refine Or.inr ⟨q, ⟨(({ U with heap := s₂.heap, slotsUsed := s₂.slotsUsed } : State).setVm s₂.vm), Ls ++ L, c0 + mc, s0 + ms⟩,
      ⟨X.admits, X.cas, X.clock, X.frames, X.room, X.hears, X.method, X.code, (X.here.setHeapUsed s₂.heap s₂.slotsUsed).setVm hW'.alike, X.tail, State.WarmedH.trans X.warmed hW', X.limits, X.bytes, X.same.trans (hsame.setVm s.vm)⟩,
      ⟨g, mk, s₂, L, E, ce, rfl, rfl, hx, hce, hcv, hcl, rfl, hL, rfl, rfl⟩, ?_⟩
    show Steps p.tables e below _ (((({ U with heap := s₂.heap, slotsUsed := s₂.slotsUsed } : State).setVm s₂.vm).setTop g).pushFrame (.throwing q))
    rw [← hs₂]
    exact hsteps
end Payer
section Calls
variable {p : Program} {l : Launch} {e : Env} {R : Room} {s : State} {m : MethodId} {args : Array Value} {below : List Frame} {meth : Method} {c : Code} {T : State} {locs : List Loc} {cells slots : Nat}
theorem vx_callV (X : Stand p l e R s m args below meth c T locs cells slots) (hexec : p.tables.exec = Jvm.exec) {own C : String} {index : Nat} {y : MethodName} {bytes : ByteArray} {maxL : Nat} {ret : Option FieldType}
    (hown : s.vm.findClass own = some m.cls) (hlink : (Cond.methodLink own index y).before args s = true) (hinst : (Cond.instanceMethod y).before args s = true) (hsel : (Cond.selects C y y).before args s = true)
    (hcode : (Cond.code y bytes maxL ret).before args s = true) (hy : y.cls ≠ "java/lang/invoke/MethodHandle" ∧ y.cls ≠ "java/lang/invoke/VarHandle")
    {W9 : Nat} {Pre : Pt → Array Value → Prop} {Post : Pt → Array Value → Option Value → Pt → Prop} {PostX : Pt → Array Value → Addr → Pt → Prop} (hK : vx_Back l R p e below s args y 3 W9 Pre Post PostX)
    {b : Addr} {cellB : Cell} (hcell : T.heap[b]? = some cellB) (hobj : cellB.vm.isStatics = false) (hcls : s.vm.findClass C = some cellB.cls)
    {g : JFrame} (hg : g.method = m) (hsize : g.locals.size = c.maxLocals) {argsL rest : List Value} (hlen : ∀ sig, parseMethodDescriptor y.desc = some sig → argsL.length = sig.parameters.length)
    (hstack : g.stack = argsL.reverse ++ .ref b :: rest) (hW : 2 * g.monitorRoom + (rest.map fun v => v.category).sum ≤ W9) (hdg : decode c.code g.pc = .ok (.invokevirtual index, 3))
    (hpre : ∀ vm₁, s.WarmedH vm₁ → Pre ⟨T.setVm vm₁, locs, cells, slots⟩ (Value.ref b :: argsL).toArray) :
    (∃ (v : Option Value) (vm₁ : Vm) (B : Pt), s.WarmedH vm₁ ∧ Stand p l e R s m args below meth c B.U B.locs B.cells B.slots ∧ Post ⟨T.setVm vm₁, locs, cells, slots⟩ (Value.ref b :: argsL).toArray v B ∧
      ∀ target, Steps p.tables e below (B.U.setTop { g with pc := g.pc + 3, stack := v.toList ++ rest }) target → Steps p.tables e below (T.setTop g) target) ∨
    (∃ (q : Addr) (vm₁ : Vm) (B : Pt), s.WarmedH vm₁ ∧ Stand p l e R s m args below meth c B.U B.locs B.cells B.slots ∧ PostX ⟨T.setVm vm₁, locs, cells, slots⟩ (Value.ref b :: argsL).toArray q B ∧
      Steps p.tables e below (T.setTop g) ((B.U.setTop { g with stack := rest }).pushFrame (.throwing q))) := by
  obtain ⟨mk, methM, hnamed, hmethM, hstM, habM⟩ := Cond.instanceMethod_spec hinst
  obtain ⟨methM', cM, hmethM', -, -, -, -, -, -, hsigM⟩ := Cond.code_spec hnamed hcode
  cases hmethM.symm.trans hmethM'
  obtain ⟨c2, r2, m2, q1, q2, q3, q4, kP, hkP, hkPi⟩ := Cond.selects_spec hsel
  cases hcls.symm.trans q1
  cases (State.methodFound?_of_named hnamed hy).symm.trans q2
  cases hnamed.symm.trans q3
  have hselP : selectMethod e.platform s.vm cellB.cls mk = .method mk := by rw [Launch.admits_selectMethod X.admits]; exact q4
  obtain ⟨vm₁, X₁, hstep₁⟩ := X.invokevirtual hexec hown hlink hnamed hmethM hstM hkP hkPi hy (a := b) (cell := cellB) hcell
    (fun z h => by rw [h] at hobj; cases hobj) hselP hmethM habM hkP hkPi (g := g) hg (argsL := argsL) (rest := rest) (hlen _ hsigM) hstack hdg
  rcases hK m meth c ⟨T.setVm vm₁, locs, cells, slots⟩ { g with stack := rest } (.invokevirtual index) mk (Value.ref b :: argsL).toArray X₁ hg hsize hdg hW (X₁.named hnamed) (hpre vm₁ X₁.warmed) with ⟨v, B, X', hpost, hsteps⟩ | ⟨q, B, X', hpost, hsteps⟩
  · exact Or.inl ⟨v, vm₁, B, X₁.warmed, X', hpost, fun target h => hstep₁ _ fun acts => by rw [doInvoke_state]; exact hsteps.trans h⟩
  · exact Or.inr ⟨q, vm₁, B, X₁.warmed, X', hpost, hstep₁ _ fun acts => by rw [doInvoke_state]; exact hsteps⟩
theorem vx_callS (X : Stand p l e R s m args below meth c T locs cells slots) (hexec : p.tables.exec = Jvm.exec) {own : String} {index : Nat} {y : MethodName} {bytes : ByteArray} {maxL : Nat} {ret : Option FieldType}
    (hown : s.vm.findClass own = some m.cls) (hlink : (Cond.methodLink own index y).before args s = true) (hstat : (Cond.static y).before args s = true) (hinit : (Cond.initialized y.cls).before args s = true)
    (hcode : (Cond.code y bytes maxL ret).before args s = true) (hy : y.cls ≠ "java/lang/invoke/MethodHandle" ∧ y.cls ≠ "java/lang/invoke/VarHandle")
    {W9 : Nat} {Pre : Pt → Array Value → Prop} {Post : Pt → Array Value → Option Value → Pt → Prop} {PostX : Pt → Array Value → Addr → Pt → Prop} (hK : vx_Back l R p e below s args y 3 W9 Pre Post PostX)
    {g : JFrame} (hg : g.method = m) (hsize : g.locals.size = c.maxLocals) {argsL rest : List Value} (hlen : ∀ sig, parseMethodDescriptor y.desc = some sig → argsL.length = sig.parameters.length)
    (hstack : g.stack = argsL.reverse ++ rest) (hW : 2 * g.monitorRoom + (rest.map fun v => v.category).sum ≤ W9) (hdg : decode c.code g.pc = .ok (.invokestatic index, 3))
    (hpre : ∀ vm₁, s.WarmedH vm₁ → Pre ⟨T.setVm vm₁, locs, cells, slots⟩ argsL.toArray) :
    (∃ (v : Option Value) (vm₁ : Vm) (B : Pt), s.WarmedH vm₁ ∧ Stand p l e R s m args below meth c B.U B.locs B.cells B.slots ∧ Post ⟨T.setVm vm₁, locs, cells, slots⟩ argsL.toArray v B ∧
      ∀ target, Steps p.tables e below (B.U.setTop { g with pc := g.pc + 3, stack := v.toList ++ rest }) target → Steps p.tables e below (T.setTop g) target) ∨
    (∃ (q : Addr) (vm₁ : Vm) (B : Pt), s.WarmedH vm₁ ∧ Stand p l e R s m args below meth c B.U B.locs B.cells B.slots ∧ PostX ⟨T.setVm vm₁, locs, cells, slots⟩ argsL.toArray q B ∧
      Steps p.tables e below (T.setTop g) ((B.U.setTop { g with stack := rest }).pushFrame (.throwing q))) := by
  obtain ⟨mk, hnamed⟩ := Cond.code_named hcode
  obtain ⟨methM, cM, hmethM, -, -, -, -, -, -, hsigM⟩ := Cond.code_spec hnamed hcode
  have hstatic : methM.isStatic = true := Cond.static_spec hnamed hmethM hstat
  obtain ⟨kP, hkP, -⟩ := className_of_methodNamed hnamed
  have hinitP : kP.init = .initialized := Cond.initialized_spec (findClass_of_methodNamed hnamed) hkP hinit
  obtain ⟨vm₁, X₁, hstep₁⟩ := X.invokestatic hexec hown hlink hnamed hmethM hstatic hkP hinitP hy (g := g) hg (argsL := argsL) (rest := rest) (hlen _ hsigM) hstack hdg
  rcases hK m meth c ⟨T.setVm vm₁, locs, cells, slots⟩ { g with stack := rest } (.invokestatic index) mk argsL.toArray X₁ hg hsize hdg hW (X₁.named hnamed) (hpre vm₁ X₁.warmed) with ⟨v, B, X', hpost, hsteps⟩ | ⟨q, B, X', hpost, hsteps⟩
  · exact Or.inl ⟨v, vm₁, B, X₁.warmed, X', hpost, fun target h => hstep₁ _ fun acts => by rw [doInvoke_state]; exact hsteps.trans h⟩
  · exact Or.inr ⟨q, vm₁, B, X₁.warmed, X', hpost, hstep₁ _ fun acts => by rw [doInvoke_state]; exact hsteps⟩
end Calls
theorem vx_cls {s : State} {T : State} {vm₁ : Vm} {E : String} {k : ClassId} (hW : s.WarmedH vm₁) (h : (T.setVm vm₁).vm.findClass E = some k) : s.vm.findClass E = some k := by
  have h1 : vm₁.findClass E = some k := h
  rw [hW.alike.findClass] at h1
  exact h1
/-- the method's frame g, with q thrown over it -/
def vx_W (p : Program) (l : Launch) (e : Env) (R : Room) (s : State) (m : MethodId) (args : Array Value) (below : List Frame) (meth : Method) (c : Code) (H : Heap) (locs : List Loc) (cells slots : Nat) (Q : State → Prop) (g : JFrame) (q : Addr) : Prop :=
  ∀ T : State, T.heap = H → Stand p l e R s m args below meth c T locs cells slots → ∃ t, Steps p.tables e below ((T.setTop g).pushFrame (.throwing q)) t ∧ Q t
def vx_Run (p : Program) (l : Launch) (e : Env) (R : Room) (s : State) (m : MethodId) (args : Array Value) (below : List Frame) (meth : Method) (c : Code) (H : Heap) (locs : List Loc) (cells slots mc ms : Nat) (g : JFrame) (rest : List Value) (Qa : State → Outcome → State → Prop) (XC : String → State → State → Prop) (free : Addr → Prop) : Prop :=
  ∀ T : State, T.heap = H → Stand p l e R s m args below meth c T locs cells slots →
    (∃ (v : Option Value) (st₀ t T' : State) (L : List Loc), st₀.heap = H ∧ Stand p l e R s m args below meth c T' (locs ++ L) (cells + mc) (slots + ms) ∧ (∀ q ∈ L, free q.base) ∧ T'.heap = t.heap ∧ T'.vm = t.vm ∧ Qa st₀ (.returned v) t ∧
      Goes p e below T g T' { g with pc := g.pc + 3, stack := v.toList ++ rest }) ∨
    (∃ (q : Addr) (st₀ t T' : State) (L : List Loc) (E : String) (ce : Cell), st₀.heap = H ∧ Stand p l e R s m args below meth c T' (locs ++ L) (cells + mc) (slots + ms) ∧ (∀ z ∈ L, free z.base) ∧ T'.heap = t.heap ∧ T'.vm = t.vm ∧ XC E st₀ t ∧ t.heap[q]? = some ce ∧ ce.vm = .none ∧ s.vm.findClass E = some ce.cls ∧
      Steps p.tables e below (T.setTop g) ((T'.setTop { g with stack := rest }).pushFrame (.throwing q)))
def vx_X {S : Type} (px : S → Prop) (B : String → S → State → Prop) (A : Nat → Prop) : String → State → State → Prop := fun E st t => ∃ u : S, px u ∧ B E u t ∧ va_F A st t
section Runs
variable {p : Program} {l : Launch} {e : Env} {R : Room} {s : State} {m : MethodId} {args : Array Value} {below : List Frame} {meth : Method} {c : Code} {H : Heap} {locs : List Loc} {cells slots : Nat}
variable {y : MethodName} {bytes cc : ByteArray} {maxL nL mc ms n index : Nat} {ret : Option FieldType} {ws : List Cond} {rm : Room} {Pc : Array Value → State → Prop} {Qc : Array Value → State → Outcome → State → Prop} {XC : String → State → State → Prop} {free : Addr → Prop} {Ts : List Cond} {own C : String} {b : Addr} {As rest : List Value} {g : JFrame}
theorem vx_callBack (cb : CallB R s args own index y bytes maxL ret ws rm mc ms n) (hM : vx_Met l y ws rm Pc Qc XC mc ms free) (hbl : FrameBlind Pc) : vx_Back l R p e below s args y 3 8 (PreOf R mc ms Pc) (PostOf Qc mc ms free) (vx_Post XC mc ms free) := by
  obtain ⟨hrc, hrs, hfr, hlo, hws, hcw, -, hini, -⟩ := cb
  exact vx_back (bytes := bytes) (maxL := maxL) (ret := ret) hM hbl hrc hrs hfr hlo hws hcw (fun a' U hW => word_at hW (Or.inl (by first | rfl | simp [Cond.onTables, Cond.keeps, Cond.steady])) hini)
theorem vx_runV (S : CallFix p m c cc nL s args Ts own) (hM : vx_Met l y ws rm Pc Qc XC mc ms free) (cw : CallW R s args own C index y bytes maxL ret ws rm mc ms n) (hp : PreV s H C b Pc As)
    (hg : g.method = m) (hn : As.length = n) (hsize : g.locals.size = nL) (hstack : g.stack = As.reverse ++ .ref b :: rest) (hW : 2 * g.monitorRoom + (rest.map fun v => v.category).sum ≤ 8) (hdg : decode cc g.pc = .ok (.invokevirtual index, 3)) (hf : cells + mc ≤ R.cells ∧ slots + ms ≤ R.slots) :
    vx_Run p l e R s m args below meth c H locs cells slots mc ms g rest (Qc (Value.ref b :: As).toArray) XC free := by
  have hK : vx_Back l R p e below s args y 3 8 (PreOf R mc ms Pc) (PostOf Qc mc ms free) (vx_Post XC mc ms free) := vx_callBack cw.1 hM hp.1
  obtain ⟨⟨-, -, -, -, -, -, hcode, -, hy, hlen, hl⟩, hin, hse⟩ := cw
  obtain ⟨hx, hb, hml, ho, -⟩ := S
  obtain ⟨-, ⟨cellB, hcB, hoB, hclB⟩, hPc⟩ := hp
  intro T hT X
  rcases vx_callV X hx (C := C) (bytes := bytes) (maxL := maxL) (ret := ret) ho hl hin hse hcode hy hK (by rw [hT]; exact hcB) hoB hclB hg (hsize.trans hml.symm) (argsL := As) (rest := rest) (fun sig h => hn.trans (hlen sig h)) hstack hW (by rw [hb]; exact hdg)
    (fun vm₁ hW₁ => ⟨hf.1, hf.2, hPc (T.setVm vm₁) hT hW₁⟩) with ⟨v, vm₁, ⟨U', l2, c2, s2⟩, hW₁, X', ⟨g', mk, t, L, e1, e2, hq, h1, hL, h2, h3⟩, st⟩ | ⟨q, vm₁, ⟨U', l2, c2, s2⟩, hW₁, X', ⟨g', mk, t, L, E, ce, e1, e2, hq, hce, hcv, hcl, h1, hL, h2, h3⟩, st⟩
  · dsimp only [Pt.U, Pt.locs, Pt.cells, Pt.slots] at X' e1 e2 h1 h2 h3 st
    subst h1; subst h2; subst h3
    exact Or.inl ⟨v, (T.setVm vm₁).calling g' mk (Value.ref b :: As).toArray, t, U', L, hT, X', hL, e1, e2, hq, st⟩
  · dsimp only [Pt.U, Pt.locs, Pt.cells, Pt.slots] at X' e1 e2 h1 h2 h3 st hcl
    subst h1; subst h2; subst h3
    exact Or.inr ⟨q, (T.setVm vm₁).calling g' mk (Value.ref b :: As).toArray, t, U', L, E, ce, hT, X', hL, e1, e2, hq, hce, hcv, vx_cls hW₁ hcl, st⟩
theorem vx_runS (S : CallFix p m c cc nL s args Ts own) (hM : vx_Met l y ws rm Pc Qc XC mc ms free) (cw : CallB R s args own index y bytes maxL ret ws rm mc ms n ∧ (Cond.static y).before args s = true) (hp : PreS s H Pc As)
    (hg : g.method = m) (hn : As.length = n) (hsize : g.locals.size = nL) (hstack : g.stack = As.reverse ++ rest) (hW : 2 * g.monitorRoom + (rest.map fun v => v.category).sum ≤ 8) (hdg : decode cc g.pc = .ok (.invokestatic index, 3)) (hf : cells + mc ≤ R.cells ∧ slots + ms ≤ R.slots) :
    vx_Run p l e R s m args below meth c H locs cells slots mc ms g rest (Qc As.toArray) XC free := by
  have hK : vx_Back l R p e below s args y 3 8 (PreOf R mc ms Pc) (PostOf Qc mc ms free) (vx_Post XC mc ms free) := vx_callBack cw.1 hM hp.1
  obtain ⟨⟨-, -, -, -, -, -, hcode, hini, hy, hlen, hl⟩, hstt⟩ := cw
  obtain ⟨hx, hb, hml, ho, -⟩ := S
  intro T hT X
  rcases vx_callS X hx (bytes := bytes) (maxL := maxL) (ret := ret) ho hl hstt hini hcode hy hK hg (hsize.trans hml.symm) (argsL := As) (rest := rest) (fun sig h => hn.trans (hlen sig h)) hstack hW (by rw [hb]; exact hdg)
    (fun vm₁ hW₁ => ⟨hf.1, hf.2, hp.2 (T.setVm vm₁) hT hW₁⟩) with ⟨v, vm₁, ⟨U', l2, c2, s2⟩, hW₁, X', ⟨g', mk, t, L, e1, e2, hq, h1, hL, h2, h3⟩, st⟩ | ⟨q, vm₁, ⟨U', l2, c2, s2⟩, hW₁, X', ⟨g', mk, t, L, E, ce, e1, e2, hq, hce, hcv, hcl, h1, hL, h2, h3⟩, st⟩
  · dsimp only [Pt.U, Pt.locs, Pt.cells, Pt.slots] at X' e1 e2 h1 h2 h3 st
    subst h1; subst h2; subst h3
    exact Or.inl ⟨v, (T.setVm vm₁).calling g' mk As.toArray, t, U', L, hT, X', hL, e1, e2, hq, st⟩
  · dsimp only [Pt.U, Pt.locs, Pt.cells, Pt.slots] at X' e1 e2 h1 h2 h3 st hcl
    subst h1; subst h2; subst h3
    exact Or.inr ⟨q, (T.setVm vm₁).calling g' mk As.toArray, t, U', L, E, ce, hT, X', hL, e1, e2, hq, hce, hcv, vx_cls hW₁ hcl, st⟩
end Runs
section Rows
variable {p : Program} {l : Launch} {e : Env} {R : Room} {s : State} {m : MethodId} {args : Array Value} {below : List Frame} {meth : Method} {c : Code} {H : Heap} {locs : List Loc} {cells slots : Nat} {Q : State → Prop}
variable {mc ms : Nat} {free : Addr → Prop} {A0 A1 : Nat → Prop} {H0 : Heap} {a : Array Value} {pc : Nat} {ls : Array Slot} {st0 rest : List Value}
theorem vx_keep {st₀ t T' : State} {L : List Loc} (h0 : st₀.heap = H) (e1 : T'.heap = t.heap) (hS : va_S A0 H0 H locs) (hA : ∀ q, q < H.size → A1 q → A0 q) (hf : ∀ q, free q → A0 q) (hL : ∀ q ∈ L, free q.base) (hF : va_F A1 st₀ t) :
    H.size ≤ T'.heap.size ∧ (∀ q : Nat, q < H.size → ¬ A1 q → T'.heap[q]? = H[q]?) ∧ va_S A0 H0 T'.heap (locs ++ L) := by
  obtain ⟨hz, hk⟩ := hF
  rw [h0] at hz hk
  exact ⟨by rw [e1]; exact hz, fun q h1 h2 => by rw [e1]; exact hk q h1 h2,
    ⟨Nat.le_trans hS.1 (by rw [e1]; exact hz), fun q h1 h2 => by rw [e1, hk q (Nat.lt_of_lt_of_le h1 hS.1) (fun z => h2 (hA q (Nat.lt_of_lt_of_le h1 hS.1) z))]; exact hS.2.1 q h1 h2, fun q hq => by
      rcases List.mem_append.mp hq with h | h
      · exact hS.2.2 q h
      · exact hf _ (hL q h)⟩⟩
theorem vx_calli {S SX : Type} {post : Int32 → S → Prop} {px : SX → Prop} {B : S → State → Prop} {BX : String → SX → State → Prop} {AX : Nat → Prop} (hr : vx_Run p l e R s m args below meth c H locs cells slots mc ms (F0 m pc ls st0) rest (va_Qi post B A1 a) (vx_X px BX AX) free) (hS : va_S A0 H0 H locs) (hA : ∀ q, q < H.size → A1 q → A0 q) (hf : ∀ q, free q → A0 q) (hAX : ∀ q, q < H.size → AX q → A0 q)
    (kx : ∀ (E : String) (ce : Cell) (q9 : Addr) (u : SX) (t : State) (H1 : Heap) (locs1 : List Loc), t.heap = H1 → s.vm.Alike t.vm → px u → BX E u t → H.size ≤ H1.size → (∀ q : Nat, q < H.size → ¬ AX q → H1[q]? = H[q]?) → va_S A0 H0 H1 locs1 → H1[q9]? = some ce → ce.vm = .none → s.vm.findClass E = some ce.cls → vx_W p l e R s m args below meth c H1 locs1 (cells + mc) (slots + ms) Q (F0 m pc ls rest) q9)
    (kk : ∀ (r : Int32) (u : S) (t : State) (H1 : Heap) (locs1 : List Loc), t.heap = H1 → s.vm.Alike t.vm → post r u → B u t → H.size ≤ H1.size → (∀ q : Nat, q < H.size → ¬ A1 q → H1[q]? = H[q]?) → va_S A0 H0 H1 locs1 → W p l e R s m args below meth c H1 locs1 (cells + mc) (slots + ms) Q (F0 m (pc + 3) ls (.int r :: rest))) : W p l e R s m args below meth c H locs cells slots Q (F0 m pc ls st0) := by
  intro T hT X
  rcases hr T hT X with ⟨v, st₀, t, T', L, h0, X', hL, e1, e2, ⟨⟨r, u, hv, hp, hb⟩, hF⟩, st⟩ | ⟨q, st₀, t, T', L, E, ce, h0, X', hL, e1, e2, ⟨u, hp, hb, hF⟩, hce, hcv, hcl, st⟩
  · cases hv
    obtain ⟨k1, k2, k3⟩ := vx_keep h0 e1 hS hA hf hL hF
    obtain ⟨t2, a1, b1⟩ := kk r u t T'.heap (locs ++ L) e1.symm (by rw [← e2]; exact X'.warmed.alike) hp hb k1 k2 k3 T' rfl X'
    exact ⟨t2, st t2 a1, b1⟩
  · obtain ⟨k1, k2, k3⟩ := vx_keep h0 e1 hS hAX hf hL hF
    obtain ⟨t2, a1, b1⟩ := kx E ce q u t T'.heap (locs ++ L) e1.symm (by rw [← e2]; exact X'.warmed.alike) hp hb k1 k2 k3 (by rw [e1]; exact hce) hcv hcl T' rfl X'
    exact ⟨t2, st.trans a1, b1⟩
theorem vx_calll {S SX : Type} {post : Int64 → S → Prop} {px : SX → Prop} {B : S → State → Prop} {BX : String → SX → State → Prop} {AX : Nat → Prop} (hr : vx_Run p l e R s m args below meth c H locs cells slots mc ms (F0 m pc ls st0) rest (va_Ql post B A1 a) (vx_X px BX AX) free) (hS : va_S A0 H0 H locs) (hA : ∀ q, q < H.size → A1 q → A0 q) (hf : ∀ q, free q → A0 q) (hAX : ∀ q, q < H.size → AX q → A0 q)
    (kx : ∀ (E : String) (ce : Cell) (q9 : Addr) (u : SX) (t : State) (H1 : Heap) (locs1 : List Loc), t.heap = H1 → s.vm.Alike t.vm → px u → BX E u t → H.size ≤ H1.size → (∀ q : Nat, q < H.size → ¬ AX q → H1[q]? = H[q]?) → va_S A0 H0 H1 locs1 → H1[q9]? = some ce → ce.vm = .none → s.vm.findClass E = some ce.cls → vx_W p l e R s m args below meth c H1 locs1 (cells + mc) (slots + ms) Q (F0 m pc ls rest) q9)
    (kk : ∀ (r : Int64) (u : S) (t : State) (H1 : Heap) (locs1 : List Loc), t.heap = H1 → s.vm.Alike t.vm → post r u → B u t → H.size ≤ H1.size → (∀ q : Nat, q < H.size → ¬ A1 q → H1[q]? = H[q]?) → va_S A0 H0 H1 locs1 → W p l e R s m args below meth c H1 locs1 (cells + mc) (slots + ms) Q (F0 m (pc + 3) ls (.long r :: rest))) : W p l e R s m args below meth c H locs cells slots Q (F0 m pc ls st0) := by
  intro T hT X
  rcases hr T hT X with ⟨v, st₀, t, T', L, h0, X', hL, e1, e2, ⟨⟨r, u, hv, hp, hb⟩, hF⟩, st⟩ | ⟨q, st₀, t, T', L, E, ce, h0, X', hL, e1, e2, ⟨u, hp, hb, hF⟩, hce, hcv, hcl, st⟩
  · cases hv
    obtain ⟨k1, k2, k3⟩ := vx_keep h0 e1 hS hA hf hL hF
    obtain ⟨t2, a1, b1⟩ := kk r u t T'.heap (locs ++ L) e1.symm (by rw [← e2]; exact X'.warmed.alike) hp hb k1 k2 k3 T' rfl X'
    exact ⟨t2, st t2 a1, b1⟩
  · obtain ⟨k1, k2, k3⟩ := vx_keep h0 e1 hS hAX hf hL hF
    obtain ⟨t2, a1, b1⟩ := kx E ce q u t T'.heap (locs ++ L) e1.symm (by rw [← e2]; exact X'.warmed.alike) hp hb k1 k2 k3 (by rw [e1]; exact hce) hcv hcl T' rfl X'
    exact ⟨t2, st.trans a1, b1⟩
theorem vx_callf {S SX : Type} {post : UInt32 → S → Prop} {px : SX → Prop} {B : S → State → Prop} {BX : String → SX → State → Prop} {AX : Nat → Prop} (hr : vx_Run p l e R s m args below meth c H locs cells slots mc ms (F0 m pc ls st0) rest (va_Qf post B A1 a) (vx_X px BX AX) free) (hS : va_S A0 H0 H locs) (hA : ∀ q, q < H.size → A1 q → A0 q) (hf : ∀ q, free q → A0 q) (hAX : ∀ q, q < H.size → AX q → A0 q)
    (kx : ∀ (E : String) (ce : Cell) (q9 : Addr) (u : SX) (t : State) (H1 : Heap) (locs1 : List Loc), t.heap = H1 → s.vm.Alike t.vm → px u → BX E u t → H.size ≤ H1.size → (∀ q : Nat, q < H.size → ¬ AX q → H1[q]? = H[q]?) → va_S A0 H0 H1 locs1 → H1[q9]? = some ce → ce.vm = .none → s.vm.findClass E = some ce.cls → vx_W p l e R s m args below meth c H1 locs1 (cells + mc) (slots + ms) Q (F0 m pc ls rest) q9)
    (kk : ∀ (r : UInt32) (u : S) (t : State) (H1 : Heap) (locs1 : List Loc), t.heap = H1 → s.vm.Alike t.vm → post r u → B u t → H.size ≤ H1.size → (∀ q : Nat, q < H.size → ¬ A1 q → H1[q]? = H[q]?) → va_S A0 H0 H1 locs1 → W p l e R s m args below meth c H1 locs1 (cells + mc) (slots + ms) Q (F0 m (pc + 3) ls (.float r :: rest))) : W p l e R s m args below meth c H locs cells slots Q (F0 m pc ls st0) := by
  intro T hT X
  rcases hr T hT X with ⟨v, st₀, t, T', L, h0, X', hL, e1, e2, ⟨⟨r, u, hv, hp, hb⟩, hF⟩, st⟩ | ⟨q, st₀, t, T', L, E, ce, h0, X', hL, e1, e2, ⟨u, hp, hb, hF⟩, hce, hcv, hcl, st⟩
  · cases hv
    obtain ⟨k1, k2, k3⟩ := vx_keep h0 e1 hS hA hf hL hF
    obtain ⟨t2, a1, b1⟩ := kk r u t T'.heap (locs ++ L) e1.symm (by rw [← e2]; exact X'.warmed.alike) hp hb k1 k2 k3 T' rfl X'
    exact ⟨t2, st t2 a1, b1⟩
  · obtain ⟨k1, k2, k3⟩ := vx_keep h0 e1 hS hAX hf hL hF
    obtain ⟨t2, a1, b1⟩ := kx E ce q u t T'.heap (locs ++ L) e1.symm (by rw [← e2]; exact X'.warmed.alike) hp hb k1 k2 k3 (by rw [e1]; exact hce) hcv hcl T' rfl X'
    exact ⟨t2, st.trans a1, b1⟩
theorem vx_calld {S SX : Type} {post : UInt64 → S → Prop} {px : SX → Prop} {B : S → State → Prop} {BX : String → SX → State → Prop} {AX : Nat → Prop} (hr : vx_Run p l e R s m args below meth c H locs cells slots mc ms (F0 m pc ls st0) rest (va_Qd post B A1 a) (vx_X px BX AX) free) (hS : va_S A0 H0 H locs) (hA : ∀ q, q < H.size → A1 q → A0 q) (hf : ∀ q, free q → A0 q) (hAX : ∀ q, q < H.size → AX q → A0 q)
    (kx : ∀ (E : String) (ce : Cell) (q9 : Addr) (u : SX) (t : State) (H1 : Heap) (locs1 : List Loc), t.heap = H1 → s.vm.Alike t.vm → px u → BX E u t → H.size ≤ H1.size → (∀ q : Nat, q < H.size → ¬ AX q → H1[q]? = H[q]?) → va_S A0 H0 H1 locs1 → H1[q9]? = some ce → ce.vm = .none → s.vm.findClass E = some ce.cls → vx_W p l e R s m args below meth c H1 locs1 (cells + mc) (slots + ms) Q (F0 m pc ls rest) q9)
    (kk : ∀ (r : UInt64) (u : S) (t : State) (H1 : Heap) (locs1 : List Loc), t.heap = H1 → s.vm.Alike t.vm → post r u → B u t → H.size ≤ H1.size → (∀ q : Nat, q < H.size → ¬ A1 q → H1[q]? = H[q]?) → va_S A0 H0 H1 locs1 → W p l e R s m args below meth c H1 locs1 (cells + mc) (slots + ms) Q (F0 m (pc + 3) ls (.double r :: rest))) : W p l e R s m args below meth c H locs cells slots Q (F0 m pc ls st0) := by
  intro T hT X
  rcases hr T hT X with ⟨v, st₀, t, T', L, h0, X', hL, e1, e2, ⟨⟨r, u, hv, hp, hb⟩, hF⟩, st⟩ | ⟨q, st₀, t, T', L, E, ce, h0, X', hL, e1, e2, ⟨u, hp, hb, hF⟩, hce, hcv, hcl, st⟩
  · cases hv
    obtain ⟨k1, k2, k3⟩ := vx_keep h0 e1 hS hA hf hL hF
    obtain ⟨t2, a1, b1⟩ := kk r u t T'.heap (locs ++ L) e1.symm (by rw [← e2]; exact X'.warmed.alike) hp hb k1 k2 k3 T' rfl X'
    exact ⟨t2, st t2 a1, b1⟩
  · obtain ⟨k1, k2, k3⟩ := vx_keep h0 e1 hS hAX hf hL hF
    obtain ⟨t2, a1, b1⟩ := kx E ce q u t T'.heap (locs ++ L) e1.symm (by rw [← e2]; exact X'.warmed.alike) hp hb k1 k2 k3 (by rw [e1]; exact hce) hcv hcl T' rfl X'
    exact ⟨t2, st.trans a1, b1⟩
theorem vx_callv {S SX : Type} {post : S → Prop} {px : SX → Prop} {B : S → State → Prop} {BX : String → SX → State → Prop} {AX : Nat → Prop} (hr : vx_Run p l e R s m args below meth c H locs cells slots mc ms (F0 m pc ls st0) rest (va_Qv post B A1 a) (vx_X px BX AX) free) (hS : va_S A0 H0 H locs) (hA : ∀ q, q < H.size → A1 q → A0 q) (hf : ∀ q, free q → A0 q) (hAX : ∀ q, q < H.size → AX q → A0 q)
    (kx : ∀ (E : String) (ce : Cell) (q9 : Addr) (u : SX) (t : State) (H1 : Heap) (locs1 : List Loc), t.heap = H1 → s.vm.Alike t.vm → px u → BX E u t → H.size ≤ H1.size → (∀ q : Nat, q < H.size → ¬ AX q → H1[q]? = H[q]?) → va_S A0 H0 H1 locs1 → H1[q9]? = some ce → ce.vm = .none → s.vm.findClass E = some ce.cls → vx_W p l e R s m args below meth c H1 locs1 (cells + mc) (slots + ms) Q (F0 m pc ls rest) q9)
    (kk : ∀ (u : S) (t : State) (H1 : Heap) (locs1 : List Loc), t.heap = H1 → s.vm.Alike t.vm → post u → B u t → H.size ≤ H1.size → (∀ q : Nat, q < H.size → ¬ A1 q → H1[q]? = H[q]?) → va_S A0 H0 H1 locs1 → W p l e R s m args below meth c H1 locs1 (cells + mc) (slots + ms) Q (F0 m (pc + 3) ls (rest))) : W p l e R s m args below meth c H locs cells slots Q (F0 m pc ls st0) := by
  intro T hT X
  rcases hr T hT X with ⟨v, st₀, t, T', L, h0, X', hL, e1, e2, ⟨⟨u, hv, hp, hb⟩, hF⟩, st⟩ | ⟨q, st₀, t, T', L, E, ce, h0, X', hL, e1, e2, ⟨u, hp, hb, hF⟩, hce, hcv, hcl, st⟩
  · cases hv
    obtain ⟨k1, k2, k3⟩ := vx_keep h0 e1 hS hA hf hL hF
    obtain ⟨t2, a1, b1⟩ := kk u t T'.heap (locs ++ L) e1.symm (by rw [← e2]; exact X'.warmed.alike) hp hb k1 k2 k3 T' rfl X'
    exact ⟨t2, st t2 a1, b1⟩
  · obtain ⟨k1, k2, k3⟩ := vx_keep h0 e1 hS hAX hf hL hF
    obtain ⟨t2, a1, b1⟩ := kx E ce q u t T'.heap (locs ++ L) e1.symm (by rw [← e2]; exact X'.warmed.alike) hp hb k1 k2 k3 (by rw [e1]; exact hce) hcv hcl T' rfl X'
    exact ⟨t2, st.trans a1, b1⟩
end Rows
section Ends
variable {p : Program} {l : Launch} {e : Env} {R : Room} {s : State} {m : MethodId} {args : Array Value} {below : List Frame} {meth : Method} {c : Code} {H : Heap} {locs : List Loc} {cells slots : Nat} {Q : State → Prop}
variable {mc ms : Nat} {free : Addr → Prop} {A0 A1 : Nat → Prop} {H0 : Heap} {a : Array Value} {ls : Array Slot} {st0 rest : List Value}
variable {Qc : Array Value → State → Outcome → State → Prop} {XC : String → State → State → Prop}
/-- what a body that may throw owes at its end -/
def vx_MQ (below : List Frame) (Qc : Array Value → State → Outcome → State → Prop) (XC : String → State → State → Prop) (a : Array Value) (s : State) (mc ms : Nat) (free : Addr → Prop) : State → Prop := fun t =>
  ∃ o, t.status = .running ∧ Ended t below o ∧ vx_Q Qc XC mc ms free a s o t
theorem vx_ret {g : JFrame} {mc ms : Nat} (k : W p l e R s m args below meth c H locs cells slots (MQ below Qc args s mc ms free) g) : W p l e R s m args below meth c H locs cells slots (vx_MQ below Qc XC args s mc ms free) g := by
  intro T hT X
  obtain ⟨t, a1, o, b1, b2, b3, b4⟩ := k T hT X
  exact ⟨t, a1, o, b1, b2, Or.inl ⟨b3, b4⟩⟩
/-- not caught here: it goes on to the caller -/
theorem vx_widen {g : JFrame} {q : Addr} {k n : Nat} (h1 : cells ≤ k) (h2 : slots ≤ n) (kk : vx_W p l e R s m args below meth c H locs k n Q g q) : vx_W p l e R s m args below meth c H locs cells slots Q g q := fun T hT X => kk T hT (stand_widen X h1 h2)
theorem vx_out {pc : Nat} {E : String} {ce : Cell} {q : Addr} {mc ms : Nat} (hout : ∀ x ∈ c.exceptionTable.toList, covers x pc = false) (hlocks : meth.locks = false) (hcell : H[q]? = some ce) (hv : ce.vm = .none) (hcl : s.vm.findClass E = some ce.cls)
    (hx : ∀ t : State, t.heap = H → s.vm.Alike t.vm → XC E s t) (hf : ∀ z ∈ locs, free z.base) (hc : cells ≤ mc) (hs : slots ≤ ms) :
    vx_W p l e R s m args below meth c H locs cells slots (vx_MQ below Qc XC args s mc ms free) (F0 m pc ls rest) q := by
  intro T hT X
  obtain ⟨st1, hrun, hend, hW, hsm⟩ := X.leaveThrown q (g := F0 m pc ls rest) rfl rfl rfl hout hlocks
  have hcell9 : (T.setFrames (.throwing q :: below)).heap[q]? = some ce := by
    show T.heap[q]? = some ce
    rw [hT]; exact hcell
  exact ⟨_, st1, .threw q, hrun, hend, Or.inr ⟨q, rfl, E, ce, locs, hx _ hT hW.alike, hcell9, hv, hcl, hW, hsm.mono hc hs, hf⟩⟩
theorem vx_frame {U : State} {k n : Nat} (h : s.sameButNew ({ U with vm := s.vm } : State) locs k n) : s.heap.size ≤ U.heap.size ∧ ∀ q : Nat, q < s.heap.size → (∀ z ∈ locs, z.base ≠ q) → U.heap[q]? = s.heap[q]? := by
  obtain ⟨-, h2, -, -, -, h6⟩ := h
  refine ⟨h2, fun q hq hz => ?_⟩
  obtain ⟨c9, e1, e2, e3, e4⟩ := h6 q _ (Array.getElem?_eq_getElem hq)
  have hs : c9.slots = (s.heap[q]).slots := Array.ext_getElem? fun i => e4 i fun hm => hz _ hm rfl
  have h9 : c9 = s.heap[q] := by
    rw [hs] at e2
    exact e2
  have e5 : U.heap[q]? = some c9 := e1
  rw [e5, h9, Array.getElem?_eq_getElem hq]
/-- the words of a throw but the four that speak of the heap -/
def vx_no (w : Cond) : Bool := decide (w ≠ .isRef (.static Bundle.tN "UNASSIGNED_STACK" Bundle.steD)) && decide (w ≠ .isRef (.static Bundle.tN "SUPPRESSED_SENTINEL" Bundle.listD)) && decide (w ≠ .laysStatic Bundle.tN "UNASSIGNED_STACK" Bundle.steD) && decide (w ≠ .laysStatic Bundle.tN "SUPPRESSED_SENTINEL" Bundle.listD)
def vx_at0 (own : String) (ic : Nat) (X : String) (names : List String) : List Cond := (Bundle.ownAtoms0 own ic X names).filter vx_no
def vx_atS (own : String) (ic : Nat) (X : String) (names : List String) : List Cond := (Bundle.ownAtoms own ic X names).filter vx_no
/-- a word that the tables alone decide, or a good one -/
def vx_ot (w : Cond) : Bool := w.onTables || goodWord w
theorem vx_ot_at {args a' : Array Value} {s U : State} {w : Cond} (hW : s.WarmedH U.vm) (hvm : s.vm = U.vm) (hg : vx_ot w = true) (h : w.before args s = true) : w.before a' U = true := by
  simp only [vx_ot, Bool.or_eq_true] at hg
  rcases hg with hg | hg
  · exact va_tabs hg hvm h
  · exact word_at hW (good_of_word hg) h
/-- a list's words: the good ones out of the method's own list, the others by premises of their own -/
theorem vx_hat {args : Array Value} {s : State} {L B : List Cond} (h1 : ∀ w ∈ L.filter goodWord, w.before args s = true) (h2 : ∀ w ∈ L.filter (fun w => !goodWord w), w ∈ B) (h3 : ∀ w ∈ B, w.before args s = true) : ∀ w ∈ L, w.before args s = true := by
  intro w hw
  by_cases g : goodWord w = true
  · exact h1 w (List.mem_filter.mpr ⟨hw, g⟩)
  · refine h3 w (h2 w (List.mem_filter.mpr ⟨hw, ?_⟩))
    show (!goodWord w) = true
    cases hgw : goodWord w
    · rfl
    · exact absurd hgw g
theorem vx_c {args : Array Value} {s : State} {w : Cond} {B : List Cond} (h : w.before args s = true) (t : ∀ w ∈ B, w.before args s = true) : ∀ w' ∈ w :: B, w'.before args s = true := fun w' h' => (List.mem_cons.mp h').elim (fun e => by rw [e]; exact h) (t w')
theorem vx_n {args : Array Value} {s : State} : ∀ w ∈ ([] : List Cond), w.before args s = true := fun _ h => nomatch h
theorem vx_own {args : Array Value} {s : State} {L : List Cond} (h1 : ∀ w ∈ L.filter vx_no, w.before args s = true)
    (hU : (Cond.isRef (.static Bundle.tN "UNASSIGNED_STACK" Bundle.steD)).before args s = true) (hN : (Cond.isRef (.static Bundle.tN "SUPPRESSED_SENTINEL" Bundle.listD)).before args s = true)
    (lU : (Cond.laysStatic Bundle.tN "UNASSIGNED_STACK" Bundle.steD).before args s = true) (lN : (Cond.laysStatic Bundle.tN "SUPPRESSED_SENTINEL" Bundle.listD).before args s = true) : ∀ w ∈ L, w.before args s = true := by
  intro w hw
  by_cases e1 : w = .isRef (.static Bundle.tN "UNASSIGNED_STACK" Bundle.steD)
  · rw [e1]; exact hU
  · by_cases e2 : w = .isRef (.static Bundle.tN "SUPPRESSED_SENTINEL" Bundle.listD)
    · rw [e2]; exact hN
    · by_cases e3 : w = .laysStatic Bundle.tN "UNASSIGNED_STACK" Bundle.steD
      · rw [e3]; exact lU
      · by_cases e4 : w = .laysStatic Bundle.tN "SUPPRESSED_SENTINEL" Bundle.listD
        · rw [e4]; exact lN
        · exact h1 w (List.mem_filter.mpr ⟨hw, by unfold vx_no; rw [decide_eq_true e1, decide_eq_true e2, decide_eq_true e3, decide_eq_true e4]; rfl⟩)
/-- where a static field lies, its class's statics cell in H -/
def vx_L (C n d : String) (A : Nat → Prop) (U : State) (H : Heap) : Prop := ∃ (c : ClassId) (k : Class) (i : Nat) (f : Field) (a : Nat) (cell : Cell), U.vm.findClass C = some c ∧ U.fieldFound? C n d = some (c, k, i, f) ∧ f.isStatic = true ∧ k.statics = some a ∧ H[a]? = some cell ∧ cell.vm.isStatics = true ∧ cell.cls = c ∧ f.slot < cell.slots.size ∧ k.staticTypes[f.slot]? = some f.type ∧ ¬ A a
theorem vx_L.moved {C n d : String} {A : Nat → Prop} {u U : State} {H : Heap} (hvm : u.vm.Alike U.vm) (h : vx_L C n d A u H) : vx_L C n d A U H := by
  obtain ⟨c, k, i, f, a, cell, h1, h2, h3, h4, h5, h6, h7, h8, h9, h10⟩ := h
  obtain ⟨k', hi', he⟩ := State.fieldFound?_setVm hvm h2
  exact ⟨c, k', i, f, a, cell, by rw [hvm.findClass]; exact h1, hi', h3, by rw [he]; exact h4, h5, h6, h7, h8, by rw [he]; exact h9, h10⟩
theorem vx_L.kept {C n d : String} {A : Nat → Prop} {U : State} {H H1 : Heap} (h : vx_L C n d A U H) (hq : ∀ a : Nat, a < H.size → ¬ A a → H1[a]? = H[a]?) : vx_L C n d A U H1 := by
  obtain ⟨c, k, i, f, a, cell, h1, h2, h3, h4, h5, h6, h7, h8, h9, h10⟩ := h
  exact ⟨c, k, i, f, a, cell, h1, h2, h3, h4, by rw [hq a (Array.getElem?_eq_some_iff.mp h5).1 h10]; exact h5, h6, h7, h8, h9, h10⟩
theorem vx_L.narrow {C n d : String} {A B : Nat → Prop} {U : State} {H : Heap} (h : vx_L C n d A U H) (hAB : ∀ q, B q → A q) : vx_L C n d B U H := by
  obtain ⟨c, k, i, f, a, cell, h1, h2, h3, h4, h5, h6, h7, h8, h9, h10⟩ := h
  exact ⟨c, k, i, f, a, cell, h1, h2, h3, h4, h5, h6, h7, h8, h9, fun z => h10 (hAB _ z)⟩
theorem vx_L.word {C n d : String} {A : Nat → Prop} {s : State} {args : Array Value} (h : vx_L C n d A s s.heap) : (Cond.laysStatic C n d).before args s = true := by
  obtain ⟨c, k, i, f, a, cell, h1, h2, h3, h4, h5, h6, h7, h8, h9, -⟩ := h
  show (Cond.laysStatic C n d).holds args s none s [] = true
  exact Cond.laysStatic_of h1 h2 h3 h4 h5 h6 h7 h8 h9
/-- .. and what it holds: null or some reference -/
def vx_Zq (C n d : String) (A : Nat → Prop) (U : State) (H : Heap) : Prop := va_Zq C n d A U H ∧ vx_L C n d A U H
theorem vx_Zq.moved {C n d : String} {A : Nat → Prop} {u U : State} {H : Heap} (hvm : u.vm.Alike U.vm) (h : vx_Zq C n d A u H) : vx_Zq C n d A U H := ⟨va_Zq.moved hvm h.1, vx_L.moved hvm h.2⟩
theorem vx_Zq.kept {C n d : String} {A : Nat → Prop} {U : State} {H H1 : Heap} (h : vx_Zq C n d A U H) (hq : ∀ a : Nat, a < H.size → ¬ A a → H1[a]? = H[a]?) : vx_Zq C n d A U H1 := ⟨va_Zq.kept h.1 hq, vx_L.kept h.2 hq⟩
theorem vx_Zq.narrow {C n d : String} {A B : Nat → Prop} {U : State} {H : Heap} (h : vx_Zq C n d A U H) (hAB : ∀ q, B q → A q) : vx_Zq C n d B U H := ⟨va_Zq.narrow h.1 hAB, vx_L.narrow h.2 hAB⟩
theorem vx_Zqof {args : Array Value} {s : State} {C n d : String} {A : Nat → Prop} (hl : (Cond.laysStatic C n d).before args s = true) (hini : (Cond.initialized C).before args s = true) (h : (Cond.isRef (.static C n d)).before args s = true) (hA : ∀ a : Nat, a < s.heap.size → ¬ A a) : vx_Zq C n d A s s.heap := by
  refine ⟨va_Zqof hl hini h hA, ?_⟩
  obtain ⟨c, k, i, f, a, cell, h1, h2, h3, h4, h5, h6, h7, h8, h9⟩ := Cond.laysStatic_spec hl
  exact ⟨c, k, i, f, a, cell, h1, h2, h3, h4, h5, h6, h7, h8, h9, hA a (Array.getElem?_eq_some_iff.mp h5).1⟩
theorem vx_isRef {C n d : String} {v : Value} {A : Nat → Prop} {s : State} {args : Array Value} (h : va_Z C n d v A s s.heap) (hv : v.isRef = true) : (Cond.isRef (.static C n d)).before args s = true := by
  obtain ⟨cf, kf, fi, f, a, cell, h1, h2, h3, h4, h5, h6, h7, -⟩ := h
  have he : (Term.static C n d).eval args s none [] s = some v := by
    simp [Term.eval, State.fieldNamed?, h1, h2, h4, h5, h6, h7]
  simp only [Cond.before, Cond.holds, Cond.value, he]
  cases v <;> simp_all [Value.isRef]
theorem vx_isRefq {C n d : String} {A : Nat → Prop} {s : State} {args : Array Value} (h : va_Zq C n d A s s.heap) : (Cond.isRef (.static C n d)).before args s = true := by
  rcases h with h | ⟨t, h⟩
  · exact vx_isRef h rfl
  · exact vx_isRef h rfl
/-- the same frame, seen from here: as if the method were called anew in this heap -/
theorem vx_rebase {T : State} (X : Stand p l e R s m args below meth c T locs cells slots) {R' : Room} (hf : R'.frames ≤ R.frames) (hl : R'.locals ≤ R.locals) (hc : cells + R'.cells ≤ R.cells) (hs : slots + R'.slots ≤ R.slots) :
    Stand p l e R' ((T.setVm s.vm).setFrames (.invoking m args :: below)) m args below meth c T [] 0 0 := by
  have htop : (T.setVm s.vm).topJava?.isSome := X.here.top
  have hF : ((T.setVm s.vm).setFrames (.invoking m args :: below)).frames = .invoking m args :: below := State.frames_setFrames _ (State.cur_lt_of_top htop)
  obtain ⟨g₀, hg0⟩ := Option.isSome_iff_exists.mp htop
  obtain ⟨r, hr⟩ := State.topJava?_eq_some.mp hg0
  have hl9 : e.platform.stackLimits (T.setVm s.vm).me = e.platform.stackLimits s.me := X.limits
  have hb9 : (T.setVm s.vm).me.stackBytes = s.me.stackBytes := X.bytes
  refine ⟨X.admits, X.cas, X.clock, hF, ?_, X.hears, X.method, X.code, X.here, X.tail, X.warmed, ?_, ?_, ?_⟩
  · have h := X.room
    have hU : ((T.setVm s.vm).setFrames (.invoking m args :: below)).localsInUse = s.localsInUse := by
      rw [State.localsInUse_invoking hF (meth := meth) (c := c) X.method X.code, State.localsInUse_invoking X.frames X.method X.code]
    simp only [State.hasRoom, Bool.and_eq_true, decide_eq_true_eq] at h ⊢
    obtain ⟨⟨⟨⟨h1, h2, h3, h4, h5, h6⟩, h7⟩, h8⟩, h9⟩ := h
    rw [X.frames, List.length_cons] at h2 h3
    have q1 := X.heapSize
    have q2 := X.used
    simp only [hF, hU, List.length_cons, State.stackLimits_setFrames, State.stackBytes_setFrames, hl9, hb9]
    refine ⟨⟨⟨⟨by omega, by omega, by omega, by omega, by omega, h6⟩, ?_⟩, ?_⟩, X.book⟩
    · show T.heap.size + R'.cells ≤ e.platform.maxCells
      omega
    · show T.slotsUsed + R'.slots ≤ e.platform.maxSlots
      omega
  · rw [State.stackLimits_setFrames]; rfl
  · rw [State.stackBytes_setFrames]; rfl
  · refine ⟨?_, Nat.le_refl _, Nat.le_refl _, ?_, ?_, fun a c9 h9 => ⟨c9, h9, rfl, rfl, fun _ _ => rfl⟩⟩
    · obtain ⟨t, ht, -⟩ := State.frames_cons hr
      show T.setVm s.vm = { ((T.setVm s.vm).setFrames (.invoking m args :: below)).setFrames (T.setVm s.vm).frames with heap := T.heap, slotsUsed := T.slotsUsed }
      rw [State.setFrames_setFrames, State.setFrames_self ht]
      rfl
    · show T.slotsUsed = T.slotsUsed + ((T.heap.toList.drop T.heap.size).map (·.slots.size)).sum
      rw [List.drop_eq_nil_of_le (Nat.le_of_eq Array.length_toList)]
      rfl
    · show ((T.heap.toList.drop T.heap.size).map (·.slots.size)).sum ≤ 0
      rw [List.drop_eq_nil_of_le (Nat.le_of_eq Array.length_toList)]
      exact Nat.le_refl _
/-- 'throw new E()': new; dup; invokespecial; athrow -/
theorem vx_throw0 {cc : ByteArray} {pc : Nat} (hexec : p.tables.exec = Jvm.exec) (hb : c.code = cc) (hl : l.stackTraces = false) {own cls : String} {names : List String} {ik ic mc ms : Nat} {A : Nat → Prop}
    (hown : s.vm.findClass own = some m.cls) (hcls : Bundle.fit cls = true) (hnames : ∀ n ∈ names, Bundle.fit n = true)
    (hk : (Cond.classLink own ik cls).before args s = true) (hini : (Cond.initialized cls).before args s = true) (hat : ∀ w ∈ vx_at0 own ic cls names, w.before args s = true)
    (hgood : ∀ w ∈ Cond.classLink own ik cls :: Cond.initialized cls :: vx_at0 own ic cls names, vx_ot w = true)
    (hU : vx_Zq Bundle.tN "UNASSIGNED_STACK" Bundle.steD A s s.heap) (hN : vx_Zq Bundle.tN "SUPPRESSED_SENTINEL" Bundle.listD A s s.heap) (hS : va_S A s.heap H locs) (hsize : ls.size = c.maxLocals)
    (d0 : decode cc pc = .ok (.new ik, 3)) (d3 : decode cc (pc + 3) = .ok (.dup, 1)) (d4 : decode cc (pc + 4) = .ok (.invokespecial ic, 3)) (d7 : decode cc (pc + 7) = .ok (.athrow, 1))
    (hout : ∀ x ∈ c.exceptionTable.toList, covers x (pc + 7) = false)
    (hRframes : names.length + 3 < R.frames) (hRlocals : (rest.map fun v => v.category).sum + (13 * (names.length + 1) + 42) ≤ R.locals) (hRcells : cells + 1 ≤ R.cells) (hRslots : slots + 6 ≤ R.slots) (hlocks : meth.locks = false)
    (hx : ∀ t : State, s.vm.Alike t.vm → H.size ≤ t.heap.size → (∀ q : Nat, q < H.size → t.heap[q]? = H[q]?) → XC cls s t)
    (hf : ∀ z ∈ locs, free z.base) (hc : cells + 1 ≤ mc) (hs : slots + 6 ≤ ms) :
    W p l e R s m args below meth c H locs cells slots (vx_MQ below Qc XC args s mc ms free) (F0 m pc ls rest) := by
  intro T hT X
  have htr : e.platform.stackTraces = false := (show e.platform.stackTraces = l.stackTraces by rw [X.admits.platform]).trans hl
  have Y := vx_rebase X (R' := { frames := R.frames, locals := R.locals, cells := 1, slots := 6 }) (Nat.le_refl _) (Nat.le_refl _) hRcells hRslots
  obtain ⟨s', hA⟩ : ∃ z, z = (T.setVm s.vm).setFrames (.invoking m args :: below) := ⟨_, rfl⟩
  rw [← hA] at Y
  have hvm : s'.vm = s.vm := by rw [hA]; rfl
  have hhp : s'.heap = H := by rw [hA]; exact hT
  have hW0 : s.WarmedH s'.vm := by rw [hvm]; exact State.WarmedH.refl s
  have hat' : ∀ w ∈ vx_at0 own ic cls names, w.before args s' = true := fun w hw => vx_ot_at hW0 hvm.symm (hgood w (List.mem_cons_of_mem _ (List.mem_cons_of_mem _ hw))) (hat w hw)
  have hk' : (Cond.classLink own ik cls).before args s' = true := vx_ot_at hW0 hvm.symm (hgood _ List.mem_cons_self) hk
  have hini' : (Cond.initialized cls).before args s' = true := vx_ot_at hW0 hvm.symm (hgood _ (List.mem_cons_of_mem _ List.mem_cons_self)) hini
  have hU' : vx_Zq Bundle.tN "UNASSIGNED_STACK" Bundle.steD A s' s'.heap := by rw [hhp]; exact vx_Zq.moved hW0.alike (hU.kept hS.2.1)
  have hN' : vx_Zq Bundle.tN "SUPPRESSED_SENTINEL" Bundle.listD A s' s'.heap := by rw [hhp]; exact vx_Zq.moved hW0.alike (hN.kept hS.2.1)
  have h : ∀ w ∈ Bundle.ownAtoms0 own ic cls names, w.before args s' = true := vx_own hat' (vx_isRefq hU'.1) (vx_isRefq hN'.1) hU'.2.word hN'.2.word
  have hown' : s'.vm.findClass own = some m.cls := by rw [hvm]; exact hown
  have hins : (Cond.instantiable cls 6).before args s' = true := h _ (by simp [Bundle.ownAtoms0])
  obtain ⟨vm₁, cX, kX, hfX, hkX, -, -, X₁, st1⟩ := Y.newCold hexec (own := own) (C := cls) (index := ik) (n := 6) hown' hk' hins hini'
    (g := F0 m pc ls rest) rfl (by rw [hb]; exact d0) (Nat.le_refl _) (Nat.le_refl _)
  generalize hT1 : (T.setVm vm₁).pushCell { cls := cX, slots := kX.instanceTypes.map defaultValue, vm := .none } = T1 at X₁ st1
  have hcat : (Value.ref T.heap.size).category = 1 := rfl
  have hcellA : T1.heap[T.heap.size]? = some (freshCell cX kX) := by rw [← hT1]; exact State.heap_pushCell_size _ _
  have d3' : decode c.code (pc + 3) = .ok (.dup, 1) := by rw [hb]; exact d3
  obtain ⟨U, hsteps, hrun, hend, hW, hsame, ce, hce, hO⟩ := X₁.ctorThrow0 hexec htr (own := own) (cls := cls) (names := names) (ic := ic) hown' hcls hnames h (fun x hx => nomatch hx) hfX hkX hcellA (by rw [hhp, hT]; exact Nat.le_refl _)
    (g := { method := m, pc := pc + 4, locals := ls, stack := .ref T.heap.size :: .ref T.heap.size :: rest, locked := none }) rfl hsize rfl rfl (rest := rest) rfl
    (by rw [hb]; exact d4) (by rw [hb]; exact d7) hout hRframes (by simp only [List.map_cons, List.sum_cons, hcat]; omega) hlocks
  obtain ⟨f1, f2⟩ := vx_frame hsame
  rw [hhp] at f1 f2
  have hWs : s.WarmedH U.vm := State.WarmedH.trans hW0 hW
  have hcl : s.vm.findClass cls = some ce.cls := by
    have h9 := hO.cls
    rw [hvm] at h9
    exact h9
  have hall : s.sameButNew ({ U with vm := s.vm } : State) locs mc ms := by
    subst hA
    obtain ⟨e1, e2⟩ := hsame
    rw [State.setFrames_setFrames] at e1
    have h2 : (T.setVm s.vm).sameButNew ({ U with vm := s.vm } : State) [] (0 + 1) (0 + 6) := ⟨e1, e2⟩
    have h3 := X.same.trans h2
    rw [List.append_nil] at h3
    exact h3.mono hc hs
  refine ⟨U, ?_, .threw T.heap.size, hrun, hend, Or.inr ⟨T.heap.size, rfl, cls, ce, locs, hx U hWs.alike f1 (fun q hq => f2 q hq (fun z hz => nomatch hz)), hce, hO.vm, hcl, hWs, hall, hf⟩⟩
  refine st1 _ ?_
  show Steps p.tables e below (T1.setTop { method := m, pc := pc + 3, locals := ls, stack := .ref T.heap.size :: rest, locked := none }) _
  jvm_step X₁.here [X₁.here.top, hexec, d3', Value.category]
  exact hsteps
/-- 'throw new E("text")': new; dup; ldc; invokespecial; athrow -/
theorem vx_throwS {cc : ByteArray} {pc : Nat} (hexec : p.tables.exec = Jvm.exec) (hb : c.code = cc) (hl : l.stackTraces = false) {own cls text : String} {names : List String} {ik is ic mc ms sa : Nat} {A : Nat → Prop}
    (hown : s.vm.findClass own = some m.cls) (hcls : Bundle.fit cls = true) (hnames : ∀ n ∈ names, Bundle.fit n = true)
    (hk : (Cond.classLink own ik cls).before args s = true) (hini : (Cond.initialized cls).before args s = true) (hstr : vk_R own is text sa s) (hat : ∀ w ∈ vx_atS own ic cls names, w.before args s = true)
    (hgood : ∀ w ∈ Cond.classLink own ik cls :: Cond.initialized cls :: vx_atS own ic cls names, vx_ot w = true)
    (hU : vx_Zq Bundle.tN "UNASSIGNED_STACK" Bundle.steD A s s.heap) (hN : vx_Zq Bundle.tN "SUPPRESSED_SENTINEL" Bundle.listD A s s.heap) (hS : va_S A s.heap H locs) (hsize : ls.size = c.maxLocals)
    (d0 : decode cc pc = .ok (.new ik, 3)) (d3 : decode cc (pc + 3) = .ok (.dup, 1)) (d4 : decode cc (pc + 4) = .ok (.ldc is, 2)) (d6 : decode cc (pc + 6) = .ok (.invokespecial ic, 3)) (d9 : decode cc (pc + 9) = .ok (.athrow, 1))
    (hout : ∀ x ∈ c.exceptionTable.toList, covers x (pc + 9) = false)
    (hRframes : names.length + 3 < R.frames) (hRlocals : (rest.map fun v => v.category).sum + (13 * (names.length + 1) + 43) ≤ R.locals) (hRcells : cells + 1 ≤ R.cells) (hRslots : slots + 6 ≤ R.slots) (hlocks : meth.locks = false)
    (hx : ∀ t : State, s.vm.Alike t.vm → H.size ≤ t.heap.size → (∀ q : Nat, q < H.size → t.heap[q]? = H[q]?) → XC cls s t)
    (hf : ∀ z ∈ locs, free z.base) (hc : cells + 1 ≤ mc) (hs : slots + 6 ≤ ms) :
    W p l e R s m args below meth c H locs cells slots (vx_MQ below Qc XC args s mc ms free) (F0 m pc ls rest) := by
  intro T hT X
  have htr : e.platform.stackTraces = false := (show e.platform.stackTraces = l.stackTraces by rw [X.admits.platform]).trans hl
  have Y := vx_rebase X (R' := { frames := R.frames, locals := R.locals, cells := 1, slots := 6 }) (Nat.le_refl _) (Nat.le_refl _) hRcells hRslots
  obtain ⟨s', hA⟩ : ∃ z, z = (T.setVm s.vm).setFrames (.invoking m args :: below) := ⟨_, rfl⟩
  rw [← hA] at Y
  have hvm : s'.vm = s.vm := by rw [hA]; rfl
  have hhp : s'.heap = H := by rw [hA]; exact hT
  have hW0 : s.WarmedH s'.vm := by rw [hvm]; exact State.WarmedH.refl s
  have hat' : ∀ w ∈ vx_atS own ic cls names, w.before args s' = true := fun w hw => vx_ot_at hW0 hvm.symm (hgood w (List.mem_cons_of_mem _ (List.mem_cons_of_mem _ hw))) (hat w hw)
  have hk' : (Cond.classLink own ik cls).before args s' = true := vx_ot_at hW0 hvm.symm (hgood _ List.mem_cons_self) hk
  have hini' : (Cond.initialized cls).before args s' = true := vx_ot_at hW0 hvm.symm (hgood _ (List.mem_cons_of_mem _ List.mem_cons_self)) hini
  have hU' : vx_Zq Bundle.tN "UNASSIGNED_STACK" Bundle.steD A s' s'.heap := by rw [hhp]; exact vx_Zq.moved hW0.alike (hU.kept hS.2.1)
  have hN' : vx_Zq Bundle.tN "SUPPRESSED_SENTINEL" Bundle.listD A s' s'.heap := by rw [hhp]; exact vx_Zq.moved hW0.alike (hN.kept hS.2.1)
  have h : ∀ w ∈ Bundle.ownAtoms own ic cls names, w.before args s' = true := vx_own hat' (vx_isRefq hU'.1) (vx_isRefq hN'.1) hU'.2.word hN'.2.word
  have hown' : s'.vm.findClass own = some m.cls := by rw [hvm]; exact hown
  have hins : (Cond.instantiable cls 6).before args s' = true := h _ (by simp [Bundle.ownAtoms])
  obtain ⟨vm₁, cX, kX, hfX, hkX, -, -, X₁, st1⟩ := Y.newCold hexec (own := own) (C := cls) (index := ik) (n := 6) hown' hk' hins hini'
    (g := F0 m pc ls rest) rfl (by rw [hb]; exact d0) (Nat.le_refl _) (Nat.le_refl _)
  generalize hT1 : (T.setVm vm₁).pushCell { cls := cX, slots := kX.instanceTypes.map defaultValue, vm := .none } = T1 at X₁ st1
  have hcat : (Value.ref T.heap.size).category = 1 := rfl
  have hcellA : T1.heap[T.heap.size]? = some (freshCell cX kX) := by rw [← hT1]; exact State.heap_pushCell_size _ _
  have d3' : decode c.code (pc + 3) = .ok (.dup, 1) := by rw [hb]; exact d3
  have d4' : decode c.code (pc + 4) = .ok (.ldc is, 2) := by rw [hb]; exact d4
  have hstr' : vk_R own is text sa s' := vk_R.warm hW0 hstr
  obtain ⟨U, hsteps, hrun, hend, hW, hsame, ce, hce, hO⟩ := X₁.ctorThrowS hexec htr (own := own) (cls := cls) (names := names) (ic := ic) hown' hcls hnames h (fun x hx => nomatch hx) hfX hkX hcellA (by rw [hhp, hT]; exact Nat.le_refl _) (msg := .ref sa) rfl
    (g := { method := m, pc := pc + 6, locals := ls, stack := .ref sa :: .ref T.heap.size :: .ref T.heap.size :: rest, locked := none }) rfl hsize rfl rfl (rest := rest) rfl
    (by rw [hb]; exact d6) (by rw [hb]; exact d9) hout hRframes (by simp only [List.map_cons, List.sum_cons, hcat]; omega) hlocks
  obtain ⟨f1, f2⟩ := vx_frame hsame
  rw [hhp] at f1 f2
  have hWs : s.WarmedH U.vm := State.WarmedH.trans hW0 hW
  have hcl : s.vm.findClass cls = some ce.cls := by
    have h9 := hO.cls
    rw [hvm] at h9
    exact h9
  have hall : s.sameButNew ({ U with vm := s.vm } : State) locs mc ms := by
    subst hA
    obtain ⟨e1, e2⟩ := hsame
    rw [State.setFrames_setFrames] at e1
    have h2 : (T.setVm s.vm).sameButNew ({ U with vm := s.vm } : State) [] (0 + 1) (0 + 6) := ⟨e1, e2⟩
    have h3 := X.same.trans h2
    rw [List.append_nil] at h3
    exact h3.mono hc hs
  refine ⟨U, ?_, .threw T.heap.size, hrun, hend, Or.inr ⟨T.heap.size, rfl, cls, ce, locs, hx U hWs.alike f1 (fun q hq => f2 q hq (fun z hz => nomatch hz)), hce, hO.vm, hcl, hWs, hall, hf⟩⟩
  refine st1 _ ?_
  show Steps p.tables e below (T1.setTop { method := m, pc := pc + 3, locals := ls, stack := .ref T.heap.size :: rest, locked := none }) _
  jvm_step X₁.here [X₁.here.top, hexec, d3', Value.category]
  exact X₁.ldcString hexec (own := own) (text := text) (index := is) (a := sa) hown' hstr'.1 hstr'.2
    (g := { method := m, pc := pc + 4, locals := ls, stack := .ref T.heap.size :: .ref T.heap.size :: rest, locked := none }) rfl d4' _ hsteps
/-- 'throw new E("text")', the text by a wide index -/
theorem vx_throwSW {cc : ByteArray} {pc : Nat} (hexec : p.tables.exec = Jvm.exec) (hb : c.code = cc) (hl : l.stackTraces = false) {own cls text : String} {names : List String} {ik is ic mc ms sa : Nat} {A : Nat → Prop}
    (hown : s.vm.findClass own = some m.cls) (hcls : Bundle.fit cls = true) (hnames : ∀ n ∈ names, Bundle.fit n = true)
    (hk : (Cond.classLink own ik cls).before args s = true) (hini : (Cond.initialized cls).before args s = true) (hstr : vk_R own is text sa s) (hat : ∀ w ∈ vx_atS own ic cls names, w.before args s = true)
    (hgood : ∀ w ∈ Cond.classLink own ik cls :: Cond.initialized cls :: vx_atS own ic cls names, vx_ot w = true)
    (hU : vx_Zq Bundle.tN "UNASSIGNED_STACK" Bundle.steD A s s.heap) (hN : vx_Zq Bundle.tN "SUPPRESSED_SENTINEL" Bundle.listD A s s.heap) (hS : va_S A s.heap H locs) (hsize : ls.size = c.maxLocals)
    (d0 : decode cc pc = .ok (.new ik, 3)) (d3 : decode cc (pc + 3) = .ok (.dup, 1)) (d4 : decode cc (pc + 4) = .ok (.ldc_w is, 3)) (d7 : decode cc (pc + 7) = .ok (.invokespecial ic, 3)) (d10 : decode cc (pc + 10) = .ok (.athrow, 1))
    (hout : ∀ x ∈ c.exceptionTable.toList, covers x (pc + 10) = false)
    (hRframes : names.length + 3 < R.frames) (hRlocals : (rest.map fun v => v.category).sum + (13 * (names.length + 1) + 43) ≤ R.locals) (hRcells : cells + 1 ≤ R.cells) (hRslots : slots + 6 ≤ R.slots) (hlocks : meth.locks = false)
    (hx : ∀ t : State, s.vm.Alike t.vm → H.size ≤ t.heap.size → (∀ q : Nat, q < H.size → t.heap[q]? = H[q]?) → XC cls s t)
    (hf : ∀ z ∈ locs, free z.base) (hc : cells + 1 ≤ mc) (hs : slots + 6 ≤ ms) :
    W p l e R s m args below meth c H locs cells slots (vx_MQ below Qc XC args s mc ms free) (F0 m pc ls rest) := by
  intro T hT X
  have htr : e.platform.stackTraces = false := (show e.platform.stackTraces = l.stackTraces by rw [X.admits.platform]).trans hl
  have Y := vx_rebase X (R' := { frames := R.frames, locals := R.locals, cells := 1, slots := 6 }) (Nat.le_refl _) (Nat.le_refl _) hRcells hRslots
  obtain ⟨s', hA⟩ : ∃ z, z = (T.setVm s.vm).setFrames (.invoking m args :: below) := ⟨_, rfl⟩
  rw [← hA] at Y
  have hvm : s'.vm = s.vm := by rw [hA]; rfl
  have hhp : s'.heap = H := by rw [hA]; exact hT
  have hW0 : s.WarmedH s'.vm := by rw [hvm]; exact State.WarmedH.refl s
  have hat' : ∀ w ∈ vx_atS own ic cls names, w.before args s' = true := fun w hw => vx_ot_at hW0 hvm.symm (hgood w (List.mem_cons_of_mem _ (List.mem_cons_of_mem _ hw))) (hat w hw)
  have hk' : (Cond.classLink own ik cls).before args s' = true := vx_ot_at hW0 hvm.symm (hgood _ List.mem_cons_self) hk
  have hini' : (Cond.initialized cls).before args s' = true := vx_ot_at hW0 hvm.symm (hgood _ (List.mem_cons_of_mem _ List.mem_cons_self)) hini
  have hU' : vx_Zq Bundle.tN "UNASSIGNED_STACK" Bundle.steD A s' s'.heap := by rw [hhp]; exact vx_Zq.moved hW0.alike (hU.kept hS.2.1)
  have hN' : vx_Zq Bundle.tN "SUPPRESSED_SENTINEL" Bundle.listD A s' s'.heap := by rw [hhp]; exact vx_Zq.moved hW0.alike (hN.kept hS.2.1)
  have h : ∀ w ∈ Bundle.ownAtoms own ic cls names, w.before args s' = true := vx_own hat' (vx_isRefq hU'.1) (vx_isRefq hN'.1) hU'.2.word hN'.2.word
  have hown' : s'.vm.findClass own = some m.cls := by rw [hvm]; exact hown
  have hins : (Cond.instantiable cls 6).before args s' = true := h _ (by simp [Bundle.ownAtoms])
  obtain ⟨vm₁, cX, kX, hfX, hkX, -, -, X₁, st1⟩ := Y.newCold hexec (own := own) (C := cls) (index := ik) (n := 6) hown' hk' hins hini'
    (g := F0 m pc ls rest) rfl (by rw [hb]; exact d0) (Nat.le_refl _) (Nat.le_refl _)
  generalize hT1 : (T.setVm vm₁).pushCell { cls := cX, slots := kX.instanceTypes.map defaultValue, vm := .none } = T1 at X₁ st1
  have hcat : (Value.ref T.heap.size).category = 1 := rfl
  have hcellA : T1.heap[T.heap.size]? = some (freshCell cX kX) := by rw [← hT1]; exact State.heap_pushCell_size _ _
  have d3' : decode c.code (pc + 3) = .ok (.dup, 1) := by rw [hb]; exact d3
  have d4' : decode c.code (pc + 4) = .ok (.ldc_w is, 3) := by rw [hb]; exact d4
  have hstr' : vk_R own is text sa s' := vk_R.warm hW0 hstr
  obtain ⟨U, hsteps, hrun, hend, hW, hsame, ce, hce, hO⟩ := X₁.ctorThrowS hexec htr (own := own) (cls := cls) (names := names) (ic := ic) hown' hcls hnames h (fun x hx => nomatch hx) hfX hkX hcellA (by rw [hhp, hT]; exact Nat.le_refl _) (msg := .ref sa) rfl
    (g := { method := m, pc := pc + 7, locals := ls, stack := .ref sa :: .ref T.heap.size :: .ref T.heap.size :: rest, locked := none }) rfl hsize rfl rfl (rest := rest) rfl
    (by rw [hb]; exact d7) (by rw [hb]; exact d10) hout hRframes (by simp only [List.map_cons, List.sum_cons, hcat]; omega) hlocks
  obtain ⟨f1, f2⟩ := vx_frame hsame
  rw [hhp] at f1 f2
  have hWs : s.WarmedH U.vm := State.WarmedH.trans hW0 hW
  have hcl : s.vm.findClass cls = some ce.cls := by
    have h9 := hO.cls
    rw [hvm] at h9
    exact h9
  have hall : s.sameButNew ({ U with vm := s.vm } : State) locs mc ms := by
    subst hA
    obtain ⟨e1, e2⟩ := hsame
    rw [State.setFrames_setFrames] at e1
    have h2 : (T.setVm s.vm).sameButNew ({ U with vm := s.vm } : State) [] (0 + 1) (0 + 6) := ⟨e1, e2⟩
    have h3 := X.same.trans h2
    rw [List.append_nil] at h3
    exact h3.mono hc hs
  refine ⟨U, ?_, .threw T.heap.size, hrun, hend, Or.inr ⟨T.heap.size, rfl, cls, ce, locs, hx U hWs.alike f1 (fun q hq => f2 q hq (fun z hz => nomatch hz)), hce, hO.vm, hcl, hWs, hall, hf⟩⟩
  refine st1 _ ?_
  show Steps p.tables e below (T1.setTop { method := m, pc := pc + 3, locals := ls, stack := .ref T.heap.size :: rest, locked := none }) _
  jvm_step X₁.here [X₁.here.top, hexec, d3', Value.category]
  exact X₁.ldcStringW hexec (own := own) (text := text) (index := is) (a := sa) hown' hstr'.1 hstr'.2
    (g := { method := m, pc := pc + 4, locals := ls, stack := .ref T.heap.size :: .ref T.heap.size :: rest, locked := none }) rfl d4' _ hsteps
end Ends
section Bodies
variable {l : Launch}
theorem vx_ofW {y : MethodName} {ws ws' : List Cond} {rm : Room} {Pc : Array Value → State → Prop} {Qc : Array Value → State → Outcome → State → Prop} {XC : String → State → State → Prop} {mc ms : Nat} {free : Addr → Prop} {cc : ByteArray} {maxL : Nat} {ret : Option FieldType}
    (hy : plainName y.cls = true) (hw : ws = Cond.code y cc maxL ret :: ws')
    (body : ∀ p e s m args below meth c s₁, BodyLoose p l y (headSpec ws rm) cc maxL ret e s m args below meth c s₁ → c.maxLocals = maxL → (∀ x ∈ c.exceptionTable.toList, False) → Pc args s →
      W p l e (headSpec ws rm).room s m args below meth c s.heap [] 0 0 (vx_MQ below Qc XC args s mc ms free) (entryFrame m args maxL)) : vx_Met l y ws rm Pc Qc XC mc ms free := by
  refine MetFree.of_bodyS (code := cc) (maxLocals := maxL) (ret := ret) hy ?_ ?_
  · intro args s m h hn
    obtain ⟨meth, c, h1, h2, h3, h4, h5, h6, -, -⟩ := Cond.code_spec hn (atoms_spec (ws := ws) h _ (by rw [hw]; exact List.mem_cons_self))
    exact ⟨meth, c, h1, h2, h3, h4, h5, h6⟩
  · intro p e s m args below meth c s₁ B hml hP _
    have hh0 : s₁.heap = s.heap := by rw [B.state]; rfl
    have ht : ∀ x ∈ c.exceptionTable.toList, False := by
      obtain ⟨meth9, c9, h1, h2, -, -, -, -, h7, -⟩ := Cond.code_spec B.named (atoms_spec (ws := ws) B.pre _ (by rw [hw]; exact List.mem_cons_self))
      cases Option.some.inj (h1.symm.trans B.method)
      cases Option.some.inj (h2.symm.trans (Stand.of_body B).code)
      intro x hx
      rw [Array.isEmpty_iff.mp h7] at hx
      cases hx
    obtain ⟨t, a1, o, b1, b2, b3⟩ := body p e s m args below meth c s₁ B hml ht hP s₁ hh0 (Stand.of_body B)
    exact ⟨t, o, a1, b1, b2, b3⟩
/-- the table of a body with handlers -/
theorem vx_table {p : Program} {x y : MethodName} {S : Spec} {cc bytes : ByteArray} {maxL maxL' : Nat} {ret ret' : Option FieldType} {e : Env} {s s₁ : State} {m : MethodId} {args : Array Value} {below : List Frame} {meth : Method} {c : Code} {hh : List (Nat × Nat × Nat × Nat)}
    (B : BodyLoose p l y S cc maxL ret e s m args below meth c s₁) (h : (Cond.codeWith y bytes maxL' ret' hh).before args s = true) : c.exceptionTable.toList = tableOf hh := by
  obtain ⟨m9, meth9, c9, hn9, h1, h2, -, -, h6, -⟩ := Cond.codeWith_spec h
  cases Option.some.inj (hn9.symm.trans B.named)
  cases Option.some.inj (h1.symm.trans B.method)
  cases Option.some.inj (h2.symm.trans (Stand.of_body B).code)
  rw [← h6, table_eq]
end Bodies
end VXA
/-! ===== END ===== -/
/-! ===== BEGIN a static call of a method with an exception table ===== -/
section VXS
variable {p : Program} {l : Launch} {e : Env} {R : Room} {s : State} {m : MethodId} {args : Array Value} {below : List Frame} {meth : Method} {c : Code} {T : State} {H : Heap} {locs : List Loc} {cells slots : Nat}
abbrev vx_CSW (R : Room) (s : State) (args : Array Value) (own : String) (index : Nat) (y : MethodName) (bytes : ByteArray) (maxL : Nat) (ret : Option FieldType) (hh : List (Nat × Nat × Nat × Nat)) (ws : List Cond) (rm : Room) (mc ms n : Nat) : Prop :=
  (rm.cells = mc ∧ rm.slots = ms ∧ rm.frames + 1 ≤ R.frames ∧ 8 + (maxL + 11) + rm.locals ≤ R.locals ∧ (∀ w ∈ ws, ∀ (a' : Array Value) (U : State), s.WarmedH U.vm → w.before a' U = true) ∧ Cond.codeWith y bytes maxL ret hh ∈ ws) ∧
  (Cond.codeWith y bytes maxL ret hh).before args s = true ∧ (Cond.initialized y.cls).before args s = true ∧ (y.cls ≠ "java/lang/invoke/MethodHandle" ∧ y.cls ≠ "java/lang/invoke/VarHandle") ∧
  (∀ sig, parseMethodDescriptor y.desc = some sig → n = sig.parameters.length) ∧ (Cond.methodLink own index y).before args s = true ∧ (Cond.static y).before args s = true
theorem vx_cwSW {own : String} {index maxL mc ms : Nat} {y : MethodName} {bytes : ByteArray} {ret : Option FieldType} {hh : List (Nat × Nat × Nat × Nat)} {Ts ws ws' : List Cond} {rm : Room} (n : Nat) (ht : ∀ w ∈ Ts, w.before args s = true) (hT : GoodIn Ts (va_wsS own index y ws)) (hw : ws = Cond.codeWith y bytes maxL ret hh :: ws') (hrc : rm.cells = mc) (hrs : rm.slots = ms)
    (hd : y.cls ≠ "java/lang/invoke/MethodHandle" ∧ y.cls ≠ "java/lang/invoke/VarHandle" ∧ (parseMethodDescriptor y.desc).map (fun d => d.parameters.length) = some n) (hR : rm.frames + 1 ≤ R.frames ∧ 8 + (maxL + 11) + rm.locals ≤ R.locals) :
    vx_CSW R s args own index y bytes maxL ret hh ws rm mc ms n := by
  have ok : ∀ w ∈ va_wsS own index y ws, w.before args s = true := fun w h => ht w (hT w h).1
  have hG : GoodIn Ts ws := fun w h => hT w (by unfold va_wsS; exact List.mem_append_right _ h)
  have hc : Cond.codeWith y bytes maxL ret hh ∈ ws := by rw [hw]; exact List.mem_cons_self
  refine ⟨⟨hrc, hrs, hR.1, hR.2, pay_in ht hG, hc⟩, ht _ (hG _ hc).1, ok _ (by simp [va_wsS]), ⟨hd.1, hd.2.1⟩, fun sig h => ?_, ok _ (by simp [va_wsS]), ok _ (by simp [va_wsS])⟩
  have h2 := hd.2.2
  rw [h] at h2
  exact (Option.some.inj h2).symm
theorem vx_callSW (X : Stand p l e R s m args below meth c T locs cells slots) (hexec : p.tables.exec = Jvm.exec) {own : String} {index : Nat} {y : MethodName} {bytes : ByteArray} {maxL : Nat} {ret : Option FieldType} {hh : List (Nat × Nat × Nat × Nat)}
    (hown : s.vm.findClass own = some m.cls) (hlink : (Cond.methodLink own index y).before args s = true) (hstat : (Cond.static y).before args s = true) (hinit : (Cond.initialized y.cls).before args s = true)
    (hcode : (Cond.codeWith y bytes maxL ret hh).before args s = true) (hy : y.cls ≠ "java/lang/invoke/MethodHandle" ∧ y.cls ≠ "java/lang/invoke/VarHandle")
    {W9 : Nat} {Pre : Pt → Array Value → Prop} {Post : Pt → Array Value → Option Value → Pt → Prop} (hK : Back l R p e below s args y 3 W9 Pre Post)
    {g : JFrame} (hg : g.method = m) (hsize : g.locals.size = c.maxLocals) {argsL rest : List Value} (hlen : ∀ sig, parseMethodDescriptor y.desc = some sig → argsL.length = sig.parameters.length)
    (hstack : g.stack = argsL.reverse ++ rest) (hW : 2 * g.monitorRoom + (rest.map fun v => v.category).sum ≤ W9) (hdg : decode c.code g.pc = .ok (.invokestatic index, 3))
    (hpre : ∀ vm₁, s.WarmedH vm₁ → Pre ⟨T.setVm vm₁, locs, cells, slots⟩ argsL.toArray) :
    ∃ (v : Option Value) (vm₁ : Vm) (B : Pt), s.WarmedH vm₁ ∧ Stand p l e R s m args below meth c B.U B.locs B.cells B.slots ∧ Post ⟨T.setVm vm₁, locs, cells, slots⟩ argsL.toArray v B ∧
      ∀ target, Steps p.tables e below (B.U.setTop { g with pc := g.pc + 3, stack := v.toList ++ rest }) target → Steps p.tables e below (T.setTop g) target := by
  obtain ⟨mk, methM, cM, hnamed, hmethM, -, -, -, -, -, -, hsigM⟩ := Cond.codeWith_spec hcode
  have hstatic : methM.isStatic = true := Cond.static_spec hnamed hmethM hstat
  obtain ⟨kP, hkP, -⟩ := className_of_methodNamed hnamed
  have hinitP : kP.init = .initialized := Cond.initialized_spec (findClass_of_methodNamed hnamed) hkP hinit
  obtain ⟨vm₁, X₁, hstep₁⟩ := X.invokestatic hexec hown hlink hnamed hmethM hstatic hkP hinitP hy (g := g) hg (argsL := argsL) (rest := rest) (hlen _ hsigM) hstack hdg
  obtain ⟨v, B, X', hpost, hsteps⟩ := hK m meth c ⟨T.setVm vm₁, locs, cells, slots⟩ { g with stack := rest } (.invokestatic index) mk argsL.toArray X₁ hg hsize hdg hW (X₁.named hnamed) (hpre vm₁ X₁.warmed)
  exact ⟨v, vm₁, B, X₁.warmed, X', hpost, fun target h => hstep₁ _ fun acts => by rw [doInvoke_state]; exact hsteps.trans h⟩
theorem vx_runSW {y : MethodName} {bytes cc : ByteArray} {maxL nL mc ms n index : Nat} {ret : Option FieldType} {hh : List (Nat × Nat × Nat × Nat)} {ws : List Cond} {rm : Room} {Pc : Array Value → State → Prop} {Qc : Array Value → State → Outcome → State → Prop} {free : Addr → Prop} {Ts : List Cond} {own : String} {As rest : List Value} {g : JFrame}
    (S : CallFix p m c cc nL s args Ts own) (hM : Met l y ws rm Pc Qc mc ms free) (cw : vx_CSW R s args own index y bytes maxL ret hh ws rm mc ms n) (hp : PreS s H Pc As)
    (hg : g.method = m) (hn : As.length = n) (hsize : g.locals.size = nL) (hstack : g.stack = As.reverse ++ rest) (hW : 2 * g.monitorRoom + (rest.map fun v => v.category).sum ≤ 8) (hdg : decode cc g.pc = .ok (.invokestatic index, 3)) (hf : cells + mc ≤ R.cells ∧ slots + ms ≤ R.slots) :
    va_Run p l e R s m args below meth c H locs cells slots mc ms g rest (Qc As.toArray) (free) := by
  obtain ⟨⟨hrc, hrs, hfr, hlo, hws, hcw⟩, hcode, hini, hy, hlen, hl, hstt⟩ := cw
  have hK : Back l R p e below s args y 3 8 (PreOf R mc ms Pc) (PostOf Qc mc ms free) := va_backW (hh := hh) (bytes := bytes) (maxL := maxL) (ret := ret) hM hp.1 hrc hrs hfr hlo hws hcw (fun a' U hW => word_at hW (Or.inl (by first | rfl | simp [Cond.onTables, Cond.keeps, Cond.steady])) hini)
  obtain ⟨hx, hb, hml, ho, -⟩ := S
  intro T hT X
  obtain ⟨v, vm₁, ⟨U', l2, c2, s2⟩, hW₁, X', ⟨g', mk, t, L, e1, e2, hq, h1, hL, h2, h3⟩, st⟩ := vx_callSW X hx (hh := hh) (bytes := bytes) (maxL := maxL) (ret := ret) ho hl hstt hini hcode hy hK hg (hsize.trans hml.symm) (argsL := As) (rest := rest) (fun sig h => hn.trans (hlen sig h)) hstack hW (by rw [hb]; exact hdg)
    (fun vm₁ hW₁ => ⟨hf.1, hf.2, hp.2 (T.setVm vm₁) hT hW₁⟩)
  dsimp only [Pt.U, Pt.locs, Pt.cells, Pt.slots] at X' e1 e2 h1 h2 h3 st
  subst h1; subst h2; subst h3
  exact ⟨v, (T.setVm vm₁).calling g' mk As.toArray, t, U', L, hT, X', hL, e1, e2, hq, st⟩
/-- a thing of a world lies in the heap -/
theorem vx_lt {D : va_G} {cl : List vw_C} {ws : va_W} {H1 : Heap} (h : va_P D cl ws H1) {k : Nat} {q : Nat × va_E} (hk : ws[k]? = some q) : q.1 < H1.size := (h k q hk).lt
end VXS
/-! ===== END ===== -/
/-! ===== BEGIN methods with a table of their own: called by a name, returning or throwing ===== -/
section VXH
/-! vx_backW, vx_callVX, vx_callSX, vx_callVW, vx_runVW, vx_runVX, vx_runSX, vx_ofWH follow the same proofs as their sisters above (Free/Laws.lean, Shelf42/LK1.lean); vx_outP calls Shelf42/NT130.lean (outThrough). -/
section
variable {l : Launch} {R : Room} {p : Program} {e : Env} {below : List Frame} {s : State} {sargs : Array Value} {y : MethodName} {len W9 : Nat}
theorem vx_backW {ws : List Cond} {rm : Room} {Pc : Array Value → State → Prop} {Qc : Array Value → State → Outcome → State → Prop} {XC : String → State → State → Prop} {mc ms : Nat} {free : Addr → Prop} {bytes : ByteArray} {maxL : Nat} {ret : Option FieldType} {hh : List (Nat × Nat × Nat × Nat)}
    (hM : vx_Met l y ws rm Pc Qc XC mc ms free) (hblind : FrameBlind Pc) (hrc : rm.cells = mc) (hrs : rm.slots = ms)
    (hframes : rm.frames + 1 ≤ R.frames) (hlocals : W9 + (maxL + 11) + rm.locals ≤ R.locals)
    (hws : ∀ w ∈ ws, ∀ a' U, s.WarmedH U.vm → w.before a' U = true) (hcode : Cond.codeWith y bytes maxL ret hh ∈ ws) (hinit : ∀ a' U, s.WarmedH U.vm → (Cond.initialized y.cls).before a' U = true) :
    vx_Back l R p e below s sargs y len W9 (PreOf R mc ms Pc) (PostOf Qc mc ms free) (vx_Post XC mc ms free) := by
  intro m meth c A g ig mk a X hg hsize hdg hW hn hp
  have h1 : (headSpec ws rm).pre.before a A.U = true := atoms_intro fun w hw => hws w hw _ _ X.warmed
  have h2 : (Cond.codeWith y bytes maxL ret hh).before a A.U = true := hws _ hcode _ _ X.warmed
  have h3 : (Cond.initialized y.cls).before a A.U = true := hinit _ _ X.warmed
  have h4 : A.cells + (headSpec ws rm).room.cells ≤ R.cells := by rw [show (headSpec ws rm).room.cells = mc from hrc]; exact hp.1
  have h5 : A.slots + (headSpec ws rm).room.slots ≤ R.slots := by rw [show (headSpec ws rm).room.slots = ms from hrs]; exact hp.2.1
  have hPc : Pc a (A.U.calling g mk a) := hblind _ _ _ _ hp.2.2
  obtain ⟨U, Ls, c0, s0⟩ := A
  dsimp only [Pt.U, Pt.locs, Pt.cells, Pt.slots] at h1 h2 h3 h4 h5 X hn hPc ⊢
  obtain ⟨m9, methY, cY, hn9, hmY, hcY, -, hlY, -⟩ := Cond.codeWith_spec h2
  cases Option.some.inj (hn9.symm.trans hn)
  obtain ⟨kY, hkY, -⟩ := className_of_methodNamed hn
  have hinitY : kY.init = .initialized := Cond.initialized_spec (findClass_of_methodNamed hn) hkY h3
  have h : At U g.method c below := by rw [hg]; exact X.here
  have hlocals9 : W9 + (maxL + 11) + (headSpec ws rm).room.locals ≤ R.locals := hlocals
  have happ : (headSpec ws rm).appliesLoose y e.platform (U.calling g mk a) = true :=
    Spec.appliesLoose_calling (g := g) h hdg hn hkY hinitY
      (X.room_calling (g := g) (R' := (headSpec ws rm).room) hsize hmY hcY hframes (by rw [hlY]; omega) h4 h5) h1
  obtain ⟨mid, hmid⟩ := h.above
  have hfr : (U.setTop g).frames = (.java g :: mid) ++ below := by rw [State.frames_setTop' g h.top, hmid]; rfl
  obtain ⟨o, s₂, hsteps, -, hend, hq⟩ := Steps.callFree hM p X.admits X.cas X.clock (acts := []) hfr happ hPc trivial
  have hq' : vx_Q Qc XC mc ms free a (U.calling g mk a) o s₂ := hq
  rw [State.frames_setTop' g h.top] at hend
  obtain ⟨g₀, hg0⟩ := Option.isSome_iff_exists.mp h.top
  obtain ⟨r, hr⟩ := State.topJava?_eq_some.mp hg0
  have hr' : (({ U with heap := s₂.heap, slotsUsed := s₂.slotsUsed } : State).setVm s₂.vm).frames = .java g₀ :: r := hr
  rcases hq' with ⟨hqc, L, hfe, hL⟩ | ⟨q, rfl, E, ce, L, hx, hce, hcv, hcl, hW₂, hsm, hL⟩
  · obtain ⟨⟨v, rfl⟩, hW₂, e2, q2, q3, q4, q5, q6⟩ := id hfe
    have e3 : s₂ = ({ (U.calling g mk a).setFrames s₂.frames with heap := s₂.heap, slotsUsed := s₂.slotsUsed } : State).setVm s₂.vm := by
      have : s₂ = ({ s₂ with vm := (U.calling g mk a).vm } : State).setVm s₂.vm := rfl
      rw [e2] at this
      exact this
    obtain ⟨c₂, i₂, len₂, hc₂, hd₂, hf₂⟩ := hend
    have hW' : U.WarmedH s₂.vm := hW₂
    have hcc : c₂ = c := by
      have h1 : s₂.code? g.method = U.code? g.method := by
        rw [State.code?_eq, State.code?_eq, hW'.alike.method?]
      exact Option.some.inj (hc₂.symm.trans (h1.trans h.code))
    subst hcc
    have hlen : len₂ = len := by rw [hdg] at hd₂; cases hd₂; rfl
    subst hlen
    have hs₂ : s₂ = (({ U with heap := s₂.heap, slotsUsed := s₂.slotsUsed } : State).setVm s₂.vm).setTop { g with pc := g.pc + len₂, stack := v.toList ++ g.stack } := by
      refine e3.trans ?_
      rw [hf₂, State.calling_eq h.top, State.setFrames_setFrames, State.setTop_of_frames _ hr', hr]
      rfl
    have hsame : U.sameButNew ({ U with heap := s₂.heap, slotsUsed := s₂.slotsUsed } : State) L mc ms := by
      refine ⟨?_, q2, q3, q4, q5, q6⟩
      obtain ⟨t, ht, -⟩ := State.frames_cons hr
      show ({ U with heap := s₂.heap, slotsUsed := s₂.slotsUsed } : State) = { U.setFrames U.frames with heap := s₂.heap, slotsUsed := s₂.slotsUsed }
      rw [State.setFrames_self ht]
    subst hg
    refine Or.inl ⟨v, ⟨(({ U with heap := s₂.heap, slotsUsed := s₂.slotsUsed } : State).setVm s₂.vm), Ls ++ L, c0 + mc, s0 + ms⟩,
      ⟨X.admits, X.cas, X.clock, X.frames, X.room, X.hears, X.method, X.code, (X.here.setHeapUsed s₂.heap s₂.slotsUsed).setVm hW'.alike, X.tail, State.WarmedH.trans X.warmed hW', X.limits, X.bytes, X.same.trans (hsame.setVm s.vm)⟩,
      ⟨g, mk, s₂, L, rfl, rfl, hqc, rfl, hL, rfl, rfl⟩, ?_⟩
    show Steps p.tables e below _ ((({ U with heap := s₂.heap, slotsUsed := s₂.slotsUsed } : State).setVm s₂.vm).setTop { g with pc := g.pc + len₂, stack := v.toList ++ g.stack })
    rw [← hs₂]
    exact hsteps
  · obtain ⟨e2, q2, q3, q4, q5, q6⟩ := id hsm
    have e3 : s₂ = ({ (U.calling g mk a).setFrames s₂.frames with heap := s₂.heap, slotsUsed := s₂.slotsUsed } : State).setVm s₂.vm := by
      have : s₂ = ({ s₂ with vm := (U.calling g mk a).vm } : State).setVm s₂.vm := rfl
      rw [e2] at this
      exact this
    have hf₂ : s₂.frames = .throwing q :: .java g :: U.frames.tail := hend
    have hW' : U.WarmedH s₂.vm := hW₂
    have hs₂ : s₂ = ((({ U with heap := s₂.heap, slotsUsed := s₂.slotsUsed } : State).setVm s₂.vm).setTop g).pushFrame (.throwing q) := by
      refine e3.trans ?_
      rw [hf₂, State.calling_eq h.top, State.setFrames_setFrames, State.pushFrame, State.frames_setTop _ hr', State.setTop_of_frames _ hr', State.setFrames_setFrames, hr]
      rfl
    have hsame : U.sameButNew ({ U with heap := s₂.heap, slotsUsed := s₂.slotsUsed } : State) L mc ms := by
      refine ⟨?_, q2, q3, q4, q5, q6⟩
      obtain ⟨t, ht, -⟩ := State.frames_cons hr
      show ({ U with heap := s₂.heap, slotsUsed := s₂.slotsUsed } : State) = { U.setFrames U.frames with heap := s₂.heap, slotsUsed := s₂.slotsUsed }
      rw [State.setFrames_self ht]
    subst hg
    refine Or.inr ⟨q, ⟨(({ U with heap := s₂.heap, slotsUsed := s₂.slotsUsed } : State).setVm s₂.vm), Ls ++ L, c0 + mc, s0 + ms⟩,
      ⟨X.admits, X.cas, X.clock, X.frames, X.room, X.hears, X.method, X.code, (X.here.setHeapUsed s₂.heap s₂.slotsUsed).setVm hW'.alike, X.tail, State.WarmedH.trans X.warmed hW', X.limits, X.bytes, X.same.trans (hsame.setVm s.vm)⟩,
      ⟨g, mk, s₂, L, E, ce, rfl, rfl, hx, hce, hcv, hcl, rfl, hL, rfl, rfl⟩, ?_⟩
    show Steps p.tables e below _ (((({ U with heap := s₂.heap, slotsUsed := s₂.slotsUsed } : State).setVm s₂.vm).setTop g).pushFrame (.throwing q))
    rw [← hs₂]
    exact hsteps
end
variable {p : Program} {l : Launch} {e : Env} {R : Room} {s : State} {m : MethodId} {args : Array Value} {below : List Frame} {meth : Method} {c : Code} {T : State} {H : Heap} {locs : List Loc} {cells slots : Nat}
theorem vx_callVX (X : Stand p l e R s m args below meth c T locs cells slots) (hexec : p.tables.exec = Jvm.exec) {own C : String} {index : Nat} {y : MethodName} {bytes : ByteArray} {maxL : Nat} {ret : Option FieldType} {hh : List (Nat × Nat × Nat × Nat)}
    (hown : s.vm.findClass own = some m.cls) (hlink : (Cond.methodLink own index y).before args s = true) (hinst : (Cond.instanceMethod y).before args s = true) (hsel : (Cond.selects C y y).before args s = true)
    (hcode : (Cond.codeWith y bytes maxL ret hh).before args s = true) (hy : y.cls ≠ "java/lang/invoke/MethodHandle" ∧ y.cls ≠ "java/lang/invoke/VarHandle")
    {W9 : Nat} {Pre : Pt → Array Value → Prop} {Post : Pt → Array Value → Option Value → Pt → Prop} {PostX : Pt → Array Value → Addr → Pt → Prop} (hK : vx_Back l R p e below s args y 3 W9 Pre Post PostX)
    {b : Addr} {cellB : Cell} (hcell : T.heap[b]? = some cellB) (hobj : cellB.vm.isStatics = false) (hcls : s.vm.findClass C = some cellB.cls)
    {g : JFrame} (hg : g.method = m) (hsize : g.locals.size = c.maxLocals) {argsL rest : List Value} (hlen : ∀ sig, parseMethodDescriptor y.desc = some sig → argsL.length = sig.parameters.length)
    (hstack : g.stack = argsL.reverse ++ .ref b :: rest) (hW : 2 * g.monitorRoom + (rest.map fun v => v.category).sum ≤ W9) (hdg : decode c.code g.pc = .ok (.invokevirtual index, 3))
    (hpre : ∀ vm₁, s.WarmedH vm₁ → Pre ⟨T.setVm vm₁, locs, cells, slots⟩ (Value.ref b :: argsL).toArray) :
    (∃ (v : Option Value) (vm₁ : Vm) (B : Pt), s.WarmedH vm₁ ∧ Stand p l e R s m args below meth c B.U B.locs B.cells B.slots ∧ Post ⟨T.setVm vm₁, locs, cells, slots⟩ (Value.ref b :: argsL).toArray v B ∧
      ∀ target, Steps p.tables e below (B.U.setTop { g with pc := g.pc + 3, stack := v.toList ++ rest }) target → Steps p.tables e below (T.setTop g) target) ∨
    (∃ (q : Addr) (vm₁ : Vm) (B : Pt), s.WarmedH vm₁ ∧ Stand p l e R s m args below meth c B.U B.locs B.cells B.slots ∧ PostX ⟨T.setVm vm₁, locs, cells, slots⟩ (Value.ref b :: argsL).toArray q B ∧
      Steps p.tables e below (T.setTop g) ((B.U.setTop { g with stack := rest }).pushFrame (.throwing q))) := by
  obtain ⟨mk, methM, hnamed, hmethM, hstM, habM⟩ := Cond.instanceMethod_spec hinst
  obtain ⟨m8, methM', cM, hn8, hmethM', -, -, -, -, -, -, hsigM⟩ := Cond.codeWith_spec hcode
  cases Option.some.inj (hn8.symm.trans hnamed)
  cases hmethM.symm.trans hmethM'
  obtain ⟨c2, r2, m2, q1, q2, q3, q4, kP, hkP, hkPi⟩ := Cond.selects_spec hsel
  cases hcls.symm.trans q1
  cases (State.methodFound?_of_named hnamed hy).symm.trans q2
  cases hnamed.symm.trans q3
  have hselP : selectMethod e.platform s.vm cellB.cls mk = .method mk := by rw [Launch.admits_selectMethod X.admits]; exact q4
  obtain ⟨vm₁, X₁, hstep₁⟩ := X.invokevirtual hexec hown hlink hnamed hmethM hstM hkP hkPi hy (a := b) (cell := cellB) hcell
    (fun z h => by rw [h] at hobj; cases hobj) hselP hmethM habM hkP hkPi (g := g) hg (argsL := argsL) (rest := rest) (hlen _ hsigM) hstack hdg
  rcases hK m meth c ⟨T.setVm vm₁, locs, cells, slots⟩ { g with stack := rest } (.invokevirtual index) mk (Value.ref b :: argsL).toArray X₁ hg hsize hdg hW (X₁.named hnamed) (hpre vm₁ X₁.warmed) with ⟨v, B, X', hpost, hsteps⟩ | ⟨q, B, X', hpost, hsteps⟩
  · exact Or.inl ⟨v, vm₁, B, X₁.warmed, X', hpost, fun target h => hstep₁ _ fun acts => by rw [doInvoke_state]; exact hsteps.trans h⟩
  · exact Or.inr ⟨q, vm₁, B, X₁.warmed, X', hpost, hstep₁ _ fun acts => by rw [doInvoke_state]; exact hsteps⟩
theorem vx_callSX (X : Stand p l e R s m args below meth c T locs cells slots) (hexec : p.tables.exec = Jvm.exec) {own : String} {index : Nat} {y : MethodName} {bytes : ByteArray} {maxL : Nat} {ret : Option FieldType} {hh : List (Nat × Nat × Nat × Nat)}
    (hown : s.vm.findClass own = some m.cls) (hlink : (Cond.methodLink own index y).before args s = true) (hstat : (Cond.static y).before args s = true) (hinit : (Cond.initialized y.cls).before args s = true)
    (hcode : (Cond.codeWith y bytes maxL ret hh).before args s = true) (hy : y.cls ≠ "java/lang/invoke/MethodHandle" ∧ y.cls ≠ "java/lang/invoke/VarHandle")
    {W9 : Nat} {Pre : Pt → Array Value → Prop} {Post : Pt → Array Value → Option Value → Pt → Prop} {PostX : Pt → Array Value → Addr → Pt → Prop} (hK : vx_Back l R p e below s args y 3 W9 Pre Post PostX)
    {g : JFrame} (hg : g.method = m) (hsize : g.locals.size = c.maxLocals) {argsL rest : List Value} (hlen : ∀ sig, parseMethodDescriptor y.desc = some sig → argsL.length = sig.parameters.length)
    (hstack : g.stack = argsL.reverse ++ rest) (hW : 2 * g.monitorRoom + (rest.map fun v => v.category).sum ≤ W9) (hdg : decode c.code g.pc = .ok (.invokestatic index, 3))
    (hpre : ∀ vm₁, s.WarmedH vm₁ → Pre ⟨T.setVm vm₁, locs, cells, slots⟩ argsL.toArray) :
    (∃ (v : Option Value) (vm₁ : Vm) (B : Pt), s.WarmedH vm₁ ∧ Stand p l e R s m args below meth c B.U B.locs B.cells B.slots ∧ Post ⟨T.setVm vm₁, locs, cells, slots⟩ argsL.toArray v B ∧
      ∀ target, Steps p.tables e below (B.U.setTop { g with pc := g.pc + 3, stack := v.toList ++ rest }) target → Steps p.tables e below (T.setTop g) target) ∨
    (∃ (q : Addr) (vm₁ : Vm) (B : Pt), s.WarmedH vm₁ ∧ Stand p l e R s m args below meth c B.U B.locs B.cells B.slots ∧ PostX ⟨T.setVm vm₁, locs, cells, slots⟩ argsL.toArray q B ∧
      Steps p.tables e below (T.setTop g) ((B.U.setTop { g with stack := rest }).pushFrame (.throwing q))) := by
  obtain ⟨mk, methM, cM, hnamed, hmethM, -, -, -, -, -, -, hsigM⟩ := Cond.codeWith_spec hcode
  have hstatic : methM.isStatic = true := Cond.static_spec hnamed hmethM hstat
  obtain ⟨kP, hkP, -⟩ := className_of_methodNamed hnamed
  have hinitP : kP.init = .initialized := Cond.initialized_spec (findClass_of_methodNamed hnamed) hkP hinit
  obtain ⟨vm₁, X₁, hstep₁⟩ := X.invokestatic hexec hown hlink hnamed hmethM hstatic hkP hinitP hy (g := g) hg (argsL := argsL) (rest := rest) (hlen _ hsigM) hstack hdg
  rcases hK m meth c ⟨T.setVm vm₁, locs, cells, slots⟩ { g with stack := rest } (.invokestatic index) mk argsL.toArray X₁ hg hsize hdg hW (X₁.named hnamed) (hpre vm₁ X₁.warmed) with ⟨v, B, X', hpost, hsteps⟩ | ⟨q, B, X', hpost, hsteps⟩
  · exact Or.inl ⟨v, vm₁, B, X₁.warmed, X', hpost, fun target h => hstep₁ _ fun acts => by rw [doInvoke_state]; exact hsteps.trans h⟩
  · exact Or.inr ⟨q, vm₁, B, X₁.warmed, X', hpost, hstep₁ _ fun acts => by rw [doInvoke_state]; exact hsteps⟩
theorem vx_callVW (X : Stand p l e R s m args below meth c T locs cells slots) (hexec : p.tables.exec = Jvm.exec) {own C : String} {index : Nat} {y : MethodName} {bytes : ByteArray} {maxL : Nat} {ret : Option FieldType} {hh : List (Nat × Nat × Nat × Nat)}
    (hown : s.vm.findClass own = some m.cls) (hlink : (Cond.methodLink own index y).before args s = true) (hinst : (Cond.instanceMethod y).before args s = true) (hsel : (Cond.selects C y y).before args s = true)
    (hcode : (Cond.codeWith y bytes maxL ret hh).before args s = true) (hy : y.cls ≠ "java/lang/invoke/MethodHandle" ∧ y.cls ≠ "java/lang/invoke/VarHandle")
    {W9 : Nat} {Pre : Pt → Array Value → Prop} {Post : Pt → Array Value → Option Value → Pt → Prop} (hK : Back l R p e below s args y 3 W9 Pre Post)
    {b : Addr} {cellB : Cell} (hcell : T.heap[b]? = some cellB) (hobj : cellB.vm.isStatics = false) (hcls : s.vm.findClass C = some cellB.cls)
    {g : JFrame} (hg : g.method = m) (hsize : g.locals.size = c.maxLocals) {argsL rest : List Value} (hlen : ∀ sig, parseMethodDescriptor y.desc = some sig → argsL.length = sig.parameters.length)
    (hstack : g.stack = argsL.reverse ++ .ref b :: rest) (hW : 2 * g.monitorRoom + (rest.map fun v => v.category).sum ≤ W9) (hdg : decode c.code g.pc = .ok (.invokevirtual index, 3))
    (hpre : ∀ vm₁, s.WarmedH vm₁ → Pre ⟨T.setVm vm₁, locs, cells, slots⟩ (Value.ref b :: argsL).toArray) :
    ∃ (v : Option Value) (vm₁ : Vm) (B : Pt), s.WarmedH vm₁ ∧ Stand p l e R s m args below meth c B.U B.locs B.cells B.slots ∧ Post ⟨T.setVm vm₁, locs, cells, slots⟩ (Value.ref b :: argsL).toArray v B ∧
      ∀ target, Steps p.tables e below (B.U.setTop { g with pc := g.pc + 3, stack := v.toList ++ rest }) target → Steps p.tables e below (T.setTop g) target := by
  obtain ⟨mk, methM, hnamed, hmethM, hstM, habM⟩ := Cond.instanceMethod_spec hinst
  obtain ⟨m8, methM', cM, hn8, hmethM', -, -, -, -, -, -, hsigM⟩ := Cond.codeWith_spec hcode
  cases Option.some.inj (hn8.symm.trans hnamed)
  cases hmethM.symm.trans hmethM'
  obtain ⟨c2, r2, m2, q1, q2, q3, q4, kP, hkP, hkPi⟩ := Cond.selects_spec hsel
  cases hcls.symm.trans q1
  cases (State.methodFound?_of_named hnamed hy).symm.trans q2
  cases hnamed.symm.trans q3
  have hselP : selectMethod e.platform s.vm cellB.cls mk = .method mk := by rw [Launch.admits_selectMethod X.admits]; exact q4
  obtain ⟨vm₁, X₁, hstep₁⟩ := X.invokevirtual hexec hown hlink hnamed hmethM hstM hkP hkPi hy (a := b) (cell := cellB) hcell
    (fun z h => by rw [h] at hobj; cases hobj) hselP hmethM habM hkP hkPi (g := g) hg (argsL := argsL) (rest := rest) (hlen _ hsigM) hstack hdg
  obtain ⟨v, B, X', hpost, hsteps⟩ := hK m meth c ⟨T.setVm vm₁, locs, cells, slots⟩ { g with stack := rest } (.invokevirtual index) mk (Value.ref b :: argsL).toArray X₁ hg hsize hdg hW (X₁.named hnamed) (hpre vm₁ X₁.warmed)
  exact ⟨v, vm₁, B, X₁.warmed, X', hpost, fun target h => hstep₁ _ fun acts => by rw [doInvoke_state]; exact hsteps.trans h⟩
abbrev vx_CVW (R : Room) (s : State) (args : Array Value) (own C : String) (index : Nat) (y : MethodName) (bytes : ByteArray) (maxL : Nat) (ret : Option FieldType) (hh : List (Nat × Nat × Nat × Nat)) (ws : List Cond) (rm : Room) (mc ms n : Nat) : Prop :=
  (rm.cells = mc ∧ rm.slots = ms ∧ rm.frames + 1 ≤ R.frames ∧ 8 + (maxL + 11) + rm.locals ≤ R.locals ∧ (∀ w ∈ ws, ∀ (a' : Array Value) (U : State), s.WarmedH U.vm → w.before a' U = true) ∧ Cond.codeWith y bytes maxL ret hh ∈ ws) ∧
  (Cond.codeWith y bytes maxL ret hh).before args s = true ∧ (Cond.initialized y.cls).before args s = true ∧ (y.cls ≠ "java/lang/invoke/MethodHandle" ∧ y.cls ≠ "java/lang/invoke/VarHandle") ∧
  (∀ sig, parseMethodDescriptor y.desc = some sig → n = sig.parameters.length) ∧ (Cond.methodLink own index y).before args s = true ∧ (Cond.instanceMethod y).before args s = true ∧ (Cond.selects C y y).before args s = true
theorem vx_cwVW {own C : String} {index maxL mc ms : Nat} {y : MethodName} {bytes : ByteArray} {ret : Option FieldType} {hh : List (Nat × Nat × Nat × Nat)} {Ts ws ws' : List Cond} {rm : Room} (n : Nat) (ht : ∀ w ∈ Ts, w.before args s = true) (hT : GoodIn Ts (wsV own index C y ws)) (hw : ws = Cond.codeWith y bytes maxL ret hh :: ws') (hrc : rm.cells = mc) (hrs : rm.slots = ms)
    (hd : y.cls = C ∧ y.cls ≠ "java/lang/invoke/MethodHandle" ∧ y.cls ≠ "java/lang/invoke/VarHandle" ∧ (parseMethodDescriptor y.desc).map (fun d => d.parameters.length) = some n) (hR : rm.frames + 1 ≤ R.frames ∧ 8 + (maxL + 11) + rm.locals ≤ R.locals) :
    vx_CVW R s args own C index y bytes maxL ret hh ws rm mc ms n := by
  obtain ⟨hC, hd⟩ := hd
  subst hC
  have ok : ∀ w ∈ wsV own index y.cls y ws, w.before args s = true := fun w h => ht w (hT w h).1
  have hG : GoodIn Ts ws := fun w h => hT w (by unfold wsV; exact List.mem_append_right _ h)
  have hc : Cond.codeWith y bytes maxL ret hh ∈ ws := by rw [hw]; exact List.mem_cons_self
  refine ⟨⟨hrc, hrs, hR.1, hR.2, pay_in ht hG, hc⟩, ht _ (hG _ hc).1, ok _ (by simp [wsV]), ⟨hd.1, hd.2.1⟩, fun sig h => ?_, ok _ (by simp [wsV]), ok _ (by simp [wsV]), ok _ (by simp [wsV])⟩
  have h2 := hd.2.2
  rw [h] at h2
  exact (Option.some.inj h2).symm
theorem vx_runVW {y : MethodName} {bytes cc : ByteArray} {maxL nL mc ms n index : Nat} {ret : Option FieldType} {hh : List (Nat × Nat × Nat × Nat)} {ws : List Cond} {rm : Room} {Pc : Array Value → State → Prop} {Qc : Array Value → State → Outcome → State → Prop} {free : Addr → Prop} {Ts : List Cond} {own C : String} {b : Addr} {As rest : List Value} {g : JFrame}
    (S : CallFix p m c cc nL s args Ts own) (hM : Met l y ws rm Pc Qc mc ms free) (cw : vx_CVW R s args own C index y bytes maxL ret hh ws rm mc ms n) (hp : PreV s H C b Pc As)
    (hg : g.method = m) (hn : As.length = n) (hsize : g.locals.size = nL) (hstack : g.stack = As.reverse ++ .ref b :: rest) (hW : 2 * g.monitorRoom + (rest.map fun v => v.category).sum ≤ 8) (hdg : decode cc g.pc = .ok (.invokevirtual index, 3)) (hf : cells + mc ≤ R.cells ∧ slots + ms ≤ R.slots) :
    va_Run p l e R s m args below meth c H locs cells slots mc ms g rest (Qc (Value.ref b :: As).toArray) free := by
  obtain ⟨⟨hrc, hrs, hfr, hlo, hws, hcw⟩, hcode, hini, hy, hlen, hl, hin, hse⟩ := cw
  have hK : Back l R p e below s args y 3 8 (PreOf R mc ms Pc) (PostOf Qc mc ms free) := va_backW (hh := hh) (bytes := bytes) (maxL := maxL) (ret := ret) hM hp.1 hrc hrs hfr hlo hws hcw (fun a' U hW => word_at hW (Or.inl (by first | rfl | simp [Cond.onTables, Cond.keeps, Cond.steady])) hini)
  obtain ⟨hx, hb, hml, ho, -⟩ := S
  obtain ⟨-, ⟨cellB, hcB, hoB, hclB⟩, hPc⟩ := hp
  intro T hT X
  obtain ⟨v, vm₁, ⟨U', l2, c2, s2⟩, hW₁, X', ⟨g', mk, t, L, e1, e2, hq, h1, hL, h2, h3⟩, st⟩ := vx_callVW X hx (C := C) (hh := hh) (bytes := bytes) (maxL := maxL) (ret := ret) ho hl hin hse hcode hy hK (by rw [hT]; exact hcB) hoB hclB hg (hsize.trans hml.symm) (argsL := As) (rest := rest) (fun sig h => hn.trans (hlen sig h)) hstack hW (by rw [hb]; exact hdg)
    (fun vm₁ hW₁ => ⟨hf.1, hf.2, hPc (T.setVm vm₁) hT hW₁⟩)
  dsimp only [Pt.U, Pt.locs, Pt.cells, Pt.slots] at X' e1 e2 h1 h2 h3 st
  subst h1; subst h2; subst h3
  exact ⟨v, (T.setVm vm₁).calling g' mk (Value.ref b :: As).toArray, t, U', L, hT, X', hL, e1, e2, hq, st⟩
section
variable {y : MethodName} {bytes cc : ByteArray} {maxL nL mc ms n index : Nat} {ret : Option FieldType} {ws : List Cond} {rm : Room} {Pc : Array Value → State → Prop} {Qc : Array Value → State → Outcome → State → Prop} {XC : String → State → State → Prop} {free : Addr → Prop} {Ts : List Cond} {own C : String} {b : Addr} {As rest : List Value} {g : JFrame}
theorem vx_runVX {hh : List (Nat × Nat × Nat × Nat)} (S : CallFix p m c cc nL s args Ts own) (hM : vx_Met l y ws rm Pc Qc XC mc ms free) (cw : vx_CVW R s args own C index y bytes maxL ret hh ws rm mc ms n) (hp : PreV s H C b Pc As)
    (hg : g.method = m) (hn : As.length = n) (hsize : g.locals.size = nL) (hstack : g.stack = As.reverse ++ .ref b :: rest) (hW : 2 * g.monitorRoom + (rest.map fun v => v.category).sum ≤ 8) (hdg : decode cc g.pc = .ok (.invokevirtual index, 3)) (hf : cells + mc ≤ R.cells ∧ slots + ms ≤ R.slots) :
    vx_Run p l e R s m args below meth c H locs cells slots mc ms g rest (Qc (Value.ref b :: As).toArray) XC free := by
  obtain ⟨⟨hrc, hrs, hfr, hlo, hws, hcw⟩, hcode, hini, hy, hlen, hl, hin, hse⟩ := cw
  have hK : vx_Back l R p e below s args y 3 8 (PreOf R mc ms Pc) (PostOf Qc mc ms free) (vx_Post XC mc ms free) := vx_backW (hh := hh) (bytes := bytes) (maxL := maxL) (ret := ret) hM hp.1 hrc hrs hfr hlo hws hcw (fun a' U hW => word_at hW (Or.inl (by first | rfl | simp [Cond.onTables, Cond.keeps, Cond.steady])) hini)
  obtain ⟨hx, hb, hml, ho, -⟩ := S
  obtain ⟨-, ⟨cellB, hcB, hoB, hclB⟩, hPc⟩ := hp
  intro T hT X
  rcases vx_callVX X hx (C := C) (hh := hh) (bytes := bytes) (maxL := maxL) (ret := ret) ho hl hin hse hcode hy hK (by rw [hT]; exact hcB) hoB hclB hg (hsize.trans hml.symm) (argsL := As) (rest := rest) (fun sig h => hn.trans (hlen sig h)) hstack hW (by rw [hb]; exact hdg)
    (fun vm₁ hW₁ => ⟨hf.1, hf.2, hPc (T.setVm vm₁) hT hW₁⟩) with ⟨v, vm₁, ⟨U', l2, c2, s2⟩, hW₁, X', ⟨g', mk, t, L, e1, e2, hq, h1, hL, h2, h3⟩, st⟩ | ⟨q, vm₁, ⟨U', l2, c2, s2⟩, hW₁, X', ⟨g', mk, t, L, E, ce, e1, e2, hq, hce, hcv, hcl, h1, hL, h2, h3⟩, st⟩
  · dsimp only [Pt.U, Pt.locs, Pt.cells, Pt.slots] at X' e1 e2 h1 h2 h3 st
    subst h1; subst h2; subst h3
    exact Or.inl ⟨v, (T.setVm vm₁).calling g' mk (Value.ref b :: As).toArray, t, U', L, hT, X', hL, e1, e2, hq, st⟩
  · dsimp only [Pt.U, Pt.locs, Pt.cells, Pt.slots] at X' e1 e2 h1 h2 h3 st hcl
    subst h1; subst h2; subst h3
    exact Or.inr ⟨q, (T.setVm vm₁).calling g' mk (Value.ref b :: As).toArray, t, U', L, E, ce, hT, X', hL, e1, e2, hq, hce, hcv, vx_cls hW₁ hcl, st⟩
theorem vx_runSX {hh : List (Nat × Nat × Nat × Nat)} (S : CallFix p m c cc nL s args Ts own) (hM : vx_Met l y ws rm Pc Qc XC mc ms free) (cw : vx_CSW R s args own index y bytes maxL ret hh ws rm mc ms n) (hp : PreS s H Pc As)
    (hg : g.method = m) (hn : As.length = n) (hsize : g.locals.size = nL) (hstack : g.stack = As.reverse ++ rest) (hW : 2 * g.monitorRoom + (rest.map fun v => v.category).sum ≤ 8) (hdg : decode cc g.pc = .ok (.invokestatic index, 3)) (hf : cells + mc ≤ R.cells ∧ slots + ms ≤ R.slots) :
    vx_Run p l e R s m args below meth c H locs cells slots mc ms g rest (Qc As.toArray) XC free := by
  obtain ⟨⟨hrc, hrs, hfr, hlo, hws, hcw⟩, hcode, hini, hy, hlen, hl, hstt⟩ := cw
  have hK : vx_Back l R p e below s args y 3 8 (PreOf R mc ms Pc) (PostOf Qc mc ms free) (vx_Post XC mc ms free) := vx_backW (hh := hh) (bytes := bytes) (maxL := maxL) (ret := ret) hM hp.1 hrc hrs hfr hlo hws hcw (fun a' U hW => word_at hW (Or.inl (by first | rfl | simp [Cond.onTables, Cond.keeps, Cond.steady])) hini)
  obtain ⟨hx, hb, hml, ho, -⟩ := S
  intro T hT X
  rcases vx_callSX X hx (hh := hh) (bytes := bytes) (maxL := maxL) (ret := ret) ho hl hstt hini hcode hy hK hg (hsize.trans hml.symm) (argsL := As) (rest := rest) (fun sig h => hn.trans (hlen sig h)) hstack hW (by rw [hb]; exact hdg)
    (fun vm₁ hW₁ => ⟨hf.1, hf.2, hp.2 (T.setVm vm₁) hT hW₁⟩) with ⟨v, vm₁, ⟨U', l2, c2, s2⟩, hW₁, X', ⟨g', mk, t, L, e1, e2, hq, h1, hL, h2, h3⟩, st⟩ | ⟨q, vm₁, ⟨U', l2, c2, s2⟩, hW₁, X', ⟨g', mk, t, L, E, ce, e1, e2, hq, hce, hcv, hcl, h1, hL, h2, h3⟩, st⟩
  · dsimp only [Pt.U, Pt.locs, Pt.cells, Pt.slots] at X' e1 e2 h1 h2 h3 st
    subst h1; subst h2; subst h3
    exact Or.inl ⟨v, (T.setVm vm₁).calling g' mk As.toArray, t, U', L, hT, X', hL, e1, e2, hq, st⟩
  · dsimp only [Pt.U, Pt.locs, Pt.cells, Pt.slots] at X' e1 e2 h1 h2 h3 st hcl
    subst h1; subst h2; subst h3
    exact Or.inr ⟨q, (T.setVm vm₁).calling g' mk As.toArray, t, U', L, E, ce, hT, X', hL, e1, e2, hq, hce, hcv, vx_cls hW₁ hcl, st⟩
end
end VXH
theorem vx_ofWH {l : Launch} {y : MethodName} {ws ws' : List Cond} {rm : Room} {Pc : Array Value → State → Prop} {Qc : Array Value → State → Outcome → State → Prop} {XC : String → State → State → Prop} {mc ms : Nat} {free : Addr → Prop} {cc : ByteArray} {maxL : Nat} {ret : Option FieldType} {hh : List (Nat × Nat × Nat × Nat)}
    (hy : plainName y.cls = true) (hw : ws = Cond.codeWith y cc maxL ret hh :: ws')
    (body : ∀ p e s m args below meth c s₁, BodyLoose p l y (headSpec ws rm) cc maxL ret e s m args below meth c s₁ → c.maxLocals = maxL → Pc args s →
      W p l e (headSpec ws rm).room s m args below meth c s.heap [] 0 0 (vx_MQ below Qc XC args s mc ms free) (entryFrame m args maxL)) : vx_Met l y ws rm Pc Qc XC mc ms free := by
  refine MetFree.of_bodyS (code := cc) (maxLocals := maxL) (ret := ret) hy ?_ ?_
  · intro args s m h hn
    obtain ⟨m9, meth, c, hn9, h1, h2, h3, h4, -, h5, h6, -⟩ := Cond.codeWith_spec (atoms_spec (ws := ws) h _ (by rw [hw]; exact List.mem_cons_self))
    cases hn.symm.trans hn9
    exact ⟨meth, c, h1, h2, h3, h4, h5, h6⟩
  · intro p e s m args below meth c s₁ B hml hP _
    have hh0 : s₁.heap = s.heap := by rw [B.state]; rfl
    obtain ⟨t, a1, o, b1, b2, b3⟩ := body p e s m args below meth c s₁ B hml hP s₁ hh0 (Stand.of_body B)
    exact ⟨t, o, a1, b1, b2, b3⟩
/-! ===== END ===== -/
end
section
/-! Own rows: arrays that are made and put into a field, the object's fields known by a list of what matters -/
/-- what is known of an object's fields: how many, and some of them -/
def kJ (N : Nat) (L : List (Nat × Value)) (fs : List Value) : Prop := fs.length = N ∧ ∀ x ∈ L, fs[x.1]? = some x.2
theorem kJ_set {N : Nat} {L : List (Nat × Value)} {fs : List Value} (h : kJ N L fs) (k : Nat) (v : Value) (hk : (L.map Prod.fst).contains k = false) : kJ N L (fs.set k v) := by
  refine ⟨by rw [List.length_set]; exact h.1, fun x hx => ?_⟩
  have h1 : x.1 ≠ k := by
    intro e
    have : (L.map Prod.fst).contains k = true := by
      rw [List.contains_iff_mem]
      exact List.mem_map.mpr ⟨x, hx, e⟩
    rw [hk] at this
    cases this
  rw [List.getElem?_set_ne (Ne.symm h1)]
  exact h.2 x hx
theorem kJ_add {N : Nat} {L : List (Nat × Value)} {fs : List Value} (h : kJ N L fs) (k : Nat) (v : Value) (hk : (L.map Prod.fst).contains k = false) (hl : k < N) : kJ N ((k, v) :: L) (fs.set k v) := by
  have h2 := kJ_set h k v hk
  refine ⟨h2.1, fun x hx => ?_⟩
  rcases List.mem_cons.mp hx with e | hx
  · subst e
    show (fs.set k v)[k]? = some v
    rw [List.getElem?_set_self (by rw [h.1]; exact hl)]
  · exact h2.2 x hx
theorem kJ_up {N : Nat} {L : List (Nat × Value)} {fs : List Value} (h : kJ N L fs) (k : Nat) (v : Value) (L2 : List (Nat × Value)) (hL : ∀ x ∈ L2, x = (k, v) ∨ (x ∈ L ∧ x.1 ≠ k)) (hl : k < N) : kJ N L2 (fs.set k v) := by
  refine ⟨by rw [List.length_set]; exact h.1, fun x hx => ?_⟩
  rcases hL x hx with e | ⟨h1, h2⟩
  · subst e
    show (fs.set k v)[k]? = some v
    rw [List.getElem?_set_self (by rw [h.1]; exact hl)]
  · rw [List.getElem?_set_ne (Ne.symm h2)]
    exact h.2 x h1
theorem kJ_at {N : Nat} {L : List (Nat × Value)} {fs : List Value} (h : kJ N L fs) (i : Nat) {k : Nat} {v : Value} (hi : L[i]? = some (k, v)) : fs[k]? = some v := h.2 _ (List.mem_of_getElem? hi)
theorem kJ_sub {N : Nat} {L L2 : List (Nat × Value)} {fs : List Value} (h : kJ N L fs) (hs : ∀ x ∈ L2, x ∈ L) : kJ N L2 fs := ⟨h.1, fun x hx => h.2 x (hs x hx)⟩
section KA
variable {p : Program} {l : Launch} {e : Env} {R : Room} {s : State} {m : MethodId} {args : Array Value} {below : List Frame} {meth : Method} {c : Code} {H : Heap} {locs : List Loc} {cells slots : Nat} {Q : State → Prop}
variable {cc : ByteArray} {pc : Nat} {ls : Array Slot} {rest : List Value} {D : va_G} {cl : List vw_C} {A : Nat → Prop} {a : Nat} {tys : List (ClassId × FieldType)} {ws : va_W} {H0 : Heap}
/-- newarray, the array itself forgotten -/
theorem k_newa (hexec : p.tables.exec = Jvm.exec) (hb : c.code = cc) {atype : ArrayType} (harr : (Cond.arrayClass (newarray.typeOf atype)).before args s = true) (hP : va_P D cl ws H) (hD : va_D A ws) (hS : va_S A H0 H locs)
    {n : Int32} {N' : Nat} (hn : ¬ n < 0) (hN : n.toNatClampNeg = N') (hbytes : N' * componentBytes (newarray.typeOf atype) ≤ 536870912) (hcells : cells + 1 ≤ R.cells) (hslots : slots + N' ≤ R.slots) (hdg : decode cc pc = .ok (.newarray atype, 2))
    (kk : ∀ (q : Nat) (H1 : Heap), va_P D cl ws H1 → va_D A ws → va_S A H0 H1 locs → W p l e R s m args below meth c H1 locs (cells + 1) (slots + N') Q (F0 m (pc + 2) ls (.ref q :: rest))) : W p l e R s m args below meth c H locs cells slots Q (F0 m pc ls (.int n :: rest)) := by
  refine va_newaK hexec hb harr rfl hdg rfl hn hN hbytes hcells hslots rfl fun H1 cA e1 z1 o1 hAr hNm => ?_
  have hk : ∀ (k : Nat) (x : Nat × va_E), ws[k]? = some x → H1[x.1]? = H[x.1]? := fun k x hx => o1 x.1 ((hP k x hx).lt)
  exact kk H.size H1 (hP.kept hk) hD ⟨Nat.le_trans hS.1 (by omega), fun x h1 h2 => (o1 x (Nat.lt_of_lt_of_le h1 hS.1)).trans (hS.2.1 x h1 h2), hS.2.2⟩
/-- anewarray of arrays, the array itself forgotten -/
theorem k_newq (hexec : p.tables.exec = Jvm.exec) (hb : c.code = cc) {own : String} {index : Nat} {t : FieldType} (hown : s.vm.findClass own = some m.cls) (hclink : (Cond.classLink own index (FieldType.array t).toString).before args s = true) (hover : (Cond.arrayOver (.array t)).before args s = true) (hP : va_P D cl ws H) (hD : va_D A ws) (hS : va_S A H0 H locs)
    {n : Int32} {N' : Nat} (hn : ¬ n < 0) (hN : n.toNatClampNeg = N') (hbytes : N' * 4 ≤ 536870912) (hcells : cells + 1 ≤ R.cells) (hslots : slots + N' ≤ R.slots) (hdg : decode cc pc = .ok (.anewarray index, 3))
    (kk : ∀ (q : Nat) (H1 : Heap), va_P D cl ws H1 → va_D A ws → va_S A H0 H1 locs → W p l e R s m args below meth c H1 locs (cells + 1) (slots + N') Q (F0 m (pc + 3) ls (.ref q :: rest))) : W p l e R s m args below meth c H locs cells slots Q (F0 m pc ls (.int n :: rest)) := by
  subst hN
  refine W.anewA hexec hb hown hclink hover rfl hdg rfl hn hbytes hcells hslots fun cA kA comp f1 f2 f3 f4 => ?_
  generalize hH1 : H.push ({ cls := cA, slots := Array.replicate n.toNatClampNeg .null, vm := .none } : Cell) = H1
  have z1 : H1.size = H.size + 1 := by rw [← hH1, Array.size_push]
  have o1 : ∀ q : Nat, q < H.size → H1[q]? = H[q]? := fun q hq => by rw [← hH1, Array.getElem?_push, if_neg (Nat.ne_of_lt hq)]
  have hk : ∀ (k : Nat) (x : Nat × va_E), ws[k]? = some x → H1[x.1]? = H[x.1]? := fun k x hx => o1 x.1 ((hP k x hx).lt)
  exact kk H.size H1 (hP.kept hk) hD ⟨Nat.le_trans hS.1 (by omega), fun x h1 h2 => (o1 x (Nat.lt_of_lt_of_le h1 hS.1)).trans (hS.2.1 x h1 h2), hS.2.2⟩
/-- newarray; putfield of a final field of this constructor's object, the first of the world; the array is forgotten -/
theorem k_arrF {N0 : Nat} {L : List (Nat × Value)} {fs : List Value} {wr : va_W} {ci : Nat} {C : String} {T : u_T} {N index : Nat} {Ts : List Cond} (hts : ∀ w ∈ Ts, w.before args s = true) (hin : ∀ w ∈ u_ws C T N, w ∈ Ts) (ty0 : Nat → FieldType) (hty : ∀ k, k < N → parseFieldDescriptor (T k).2.2.1 = some (ty0 k)) (hnm : ∀ a, a < N → ∀ b, b < N → a ≠ b → (T a).2.1 ≠ (T b).2.1)
    (hexec : p.tables.exec = Jvm.exec) (hb : c.code = cc) (hown : s.vm.findClass C = some m.cls) (hin2 : meth.name = "<init>") (hK : va_K D cl tys s) (hc : cl[ci]? = some (C, T, N)) (hJ : kJ N0 L fs) (hP : va_P D cl ((a, .inr (ci, fs)) :: wr) H) (hD : va_D A ((a, .inr (ci, fs)) :: wr)) (hS : va_S A H0 H locs)
    {atype : ArrayType} (harr : (Cond.arrayClass (newarray.typeOf atype)).before args s = true) (k : Nat) (hk : k < N) (hkl : k < N0) (hkL : (L.map Prod.fst).contains k = false) (hlink : (Cond.fieldLink C index C (T k).2.1 (T k).2.2.1).before args s = true) (hfin : (T k).2.2.2 = true) (hdecl : (T k).1 = C) {ty : FieldType} (hd : parseFieldDescriptor (T k).2.2.1 = some (.array ty))
    {n : Int32} {N' : Nat} (hn : ¬ n < 0) (hN : n.toNatClampNeg = N') (hbytes : N' * componentBytes (newarray.typeOf atype) ≤ 536870912) (hcells : cells + 1 ≤ R.cells) (hslots : slots + N' ≤ R.slots) (hdg : decode cc pc = .ok (.newarray atype, 2)) (hdg2 : decode cc (pc + 2) = .ok (.putfield index, 3))
    (kk : ∀ (H1 : Heap) (locs1 : List Loc) (fs1 : List Value), kJ N0 L fs1 → va_P D cl ((a, .inr (ci, fs1)) :: wr) H1 → va_D A ((a, .inr (ci, fs1)) :: wr) → va_S A H0 H1 locs1 → W p l e R s m args below meth c H1 locs1 (cells + 1) (slots + N') Q (F0 m (pc + 2 + 3) ls rest)) : W p l e R s m args below meth c H locs cells slots Q (F0 m pc ls (.int n :: .ref a :: rest)) := by
  refine k_newa hexec hb harr hP hD hS hn hN hbytes hcells hslots hdg (fun q H1 hP hD hS => ?_)
  refine va_putF (D := D) (ci := ci) (v := .ref q) (ty := .array ty) (C := C) (T := T) (N := N) hexec hb hts hin ty0 hty hnm hown hK hP hD hS 0 rfl hc k hk hlink (fun _ h9 => by rw [hdecl] at h9; exact h9) hfin hin2 hdecl hd rfl rfl (by rw [hJ.1]; exact hkl) hdg2 (fun H2 locs2 hP hD hS => ?_)
  exact kk H2 locs2 (fs.set k (.ref q)) (kJ_set hJ k _ hkL) hP hD hS
/-- anewarray; putfield of a final field of this constructor's object, the first of the world; the array is forgotten -/
theorem k_arrQ {N0 : Nat} {L : List (Nat × Value)} {fs : List Value} {wr : va_W} {ci : Nat} {C : String} {T : u_T} {N index : Nat} {Ts : List Cond} (hts : ∀ w ∈ Ts, w.before args s = true) (hin : ∀ w ∈ u_ws C T N, w ∈ Ts) (ty0 : Nat → FieldType) (hty : ∀ k, k < N → parseFieldDescriptor (T k).2.2.1 = some (ty0 k)) (hnm : ∀ a, a < N → ∀ b, b < N → a ≠ b → (T a).2.1 ≠ (T b).2.1)
    (hexec : p.tables.exec = Jvm.exec) (hb : c.code = cc) (hown : s.vm.findClass C = some m.cls) (hin2 : meth.name = "<init>") (hK : va_K D cl tys s) (hc : cl[ci]? = some (C, T, N)) (hJ : kJ N0 L fs) (hP : va_P D cl ((a, .inr (ci, fs)) :: wr) H) (hD : va_D A ((a, .inr (ci, fs)) :: wr)) (hS : va_S A H0 H locs) 
    {et : FieldType} {ix : Nat} (hclink : (Cond.classLink C ix (FieldType.array et).toString).before args s = true) (hover : (Cond.arrayOver (.array et)).before args s = true) (k : Nat) (hk : k < N) (hkl : k < N0) (hkL : (L.map Prod.fst).contains k = false) (hlink : (Cond.fieldLink C index C (T k).2.1 (T k).2.2.1).before args s = true) (hfin : (T k).2.2.2 = true) (hdecl : (T k).1 = C) {ty : FieldType} (hd : parseFieldDescriptor (T k).2.2.1 = some (.array ty))
    {n : Int32} {N' : Nat} (hn : ¬ n < 0) (hN : n.toNatClampNeg = N') (hbytes : N' * 4 ≤ 536870912) (hcells : cells + 1 ≤ R.cells) (hslots : slots + N' ≤ R.slots) (hdg : decode cc pc = .ok (.anewarray ix, 3)) (hdg2 : decode cc (pc + 3) = .ok (.putfield index, 3))
    (kk : ∀ (H1 : Heap) (locs1 : List Loc) (fs1 : List Value), kJ N0 L fs1 → va_P D cl ((a, .inr (ci, fs1)) :: wr) H1 → va_D A ((a, .inr (ci, fs1)) :: wr) → va_S A H0 H1 locs1 → W p l e R s m args below meth c H1 locs1 (cells + 1) (slots + N') Q (F0 m (pc + 3 + 3) ls rest)) : W p l e R s m args below meth c H locs cells slots Q (F0 m pc ls (.int n :: .ref a :: rest)) := by
  refine k_newq hexec hb hown hclink hover hP hD hS hn hN hbytes hcells hslots hdg (fun q H1 hP hD hS => ?_)
  refine va_putF (D := D) (ci := ci) (v := .ref q) (ty := .array ty) (C := C) (T := T) (N := N) hexec hb hts hin ty0 hty hnm hown hK hP hD hS 0 rfl hc k hk hlink (fun _ h9 => by rw [hdecl] at h9; exact h9) hfin hin2 hdecl hd rfl rfl (by rw [hJ.1]; exact hkl) hdg2 (fun H2 locs2 hP hD hS => ?_)
  exact kk H2 locs2 (fs.set k (.ref q)) (kJ_set hJ k _ hkL) hP hD hS
/-- newarray; putfield of a field of this object, the first of the world; the array is forgotten -/
theorem k_arrP {N0 : Nat} {L : List (Nat × Value)} {fs : List Value} {wr : va_W} {ci : Nat} {C : String} {T : u_T} {N index : Nat} {Ts : List Cond} (hts : ∀ w ∈ Ts, w.before args s = true) (hin : ∀ w ∈ u_ws C T N, w ∈ Ts) (ty0 : Nat → FieldType) (hty : ∀ k, k < N → parseFieldDescriptor (T k).2.2.1 = some (ty0 k)) (hnm : ∀ a, a < N → ∀ b, b < N → a ≠ b → (T a).2.1 ≠ (T b).2.1)
    (hexec : p.tables.exec = Jvm.exec) (hb : c.code = cc) (hown : s.vm.findClass C = some m.cls) (hK : va_K D cl tys s) (hc : cl[ci]? = some (C, T, N)) (hJ : kJ N0 L fs) (hP : va_P D cl ((a, .inr (ci, fs)) :: wr) H) (hD : va_D A ((a, .inr (ci, fs)) :: wr)) (hS : va_S A H0 H locs)
    {atype : ArrayType} (harr : (Cond.arrayClass (newarray.typeOf atype)).before args s = true) (k : Nat) (hk : k < N) (hkl : k < N0) (hkL : (L.map Prod.fst).contains k = false) (hlink : (Cond.fieldLink C index C (T k).2.1 (T k).2.2.1).before args s = true) (hfin : (T k).2.2.2 = false) (hdecl : (T k).1 = C) {ty : FieldType} (hd : parseFieldDescriptor (T k).2.2.1 = some (.array ty))
    {n : Int32} {N' : Nat} (hn : ¬ n < 0) (hN : n.toNatClampNeg = N') (hbytes : N' * componentBytes (newarray.typeOf atype) ≤ 536870912) (hcells : cells + 1 ≤ R.cells) (hslots : slots + N' ≤ R.slots) (hdg : decode cc pc = .ok (.newarray atype, 2)) (hdg2 : decode cc (pc + 2) = .ok (.putfield index, 3))
    (kk : ∀ (H1 : Heap) (locs1 : List Loc) (fs1 : List Value), kJ N0 L fs1 → va_P D cl ((a, .inr (ci, fs1)) :: wr) H1 → va_D A ((a, .inr (ci, fs1)) :: wr) → va_S A H0 H1 locs1 → W p l e R s m args below meth c H1 locs1 (cells + 1) (slots + N') Q (F0 m (pc + 2 + 3) ls rest)) : W p l e R s m args below meth c H locs cells slots Q (F0 m pc ls (.int n :: .ref a :: rest)) := by
  refine k_newa hexec hb harr hP hD hS hn hN hbytes hcells hslots hdg (fun q H1 hP hD hS => ?_)
  refine va_put (D := D) (ci := ci) (v := .ref q) (ty := .array ty) (C := C) (T := T) (N := N) hexec hb hts hin ty0 hty hnm hown hK hP hD hS 0 rfl hc k hk hlink (fun _ h9 => by rw [hdecl] at h9; exact h9) hfin hd rfl rfl (by rw [hJ.1]; exact hkl) hdg2 (fun H2 locs2 hP hD hS => ?_)
  exact kk H2 locs2 (fs.set k (.ref q)) (kJ_set hJ k _ hkL) hP hD hS
/-- putfield of a field that isn't final, of the first object of the world -/
theorem k_put {N0 : Nat} {L : List (Nat × Value)} (L2 : List (Nat × Value)) {fs : List Value} {wr : va_W} {ci : Nat} {own C : String} {T : u_T} {N index : Nat} {Ts : List Cond} (hts : ∀ w ∈ Ts, w.before args s = true) (hin : ∀ w ∈ u_ws C T N, w ∈ Ts) (ty0 : Nat → FieldType) (hty : ∀ k, k < N → parseFieldDescriptor (T k).2.2.1 = some (ty0 k)) (hnm : ∀ a, a < N → ∀ b, b < N → a ≠ b → (T a).2.1 ≠ (T b).2.1)
    (hexec : p.tables.exec = Jvm.exec) (hb : c.code = cc) (hown : s.vm.findClass own = some m.cls) (hK : va_K D cl tys s) (hc : cl[ci]? = some (C, T, N)) (hJ : kJ N0 L fs) (hP : va_P D cl ((a, .inr (ci, fs)) :: wr) H) (hD : va_D A ((a, .inr (ci, fs)) :: wr)) (hS : va_S A H0 H locs)
    (k : Nat) (hk : k < N) (hkl : k < N0) (hlink : (Cond.fieldLink own index (T k).1 (T k).2.1 (T k).2.2.1).before args s = true) (hfin : (T k).2.2.2 = false) {ty : FieldType} (hd : parseFieldDescriptor (T k).2.2.1 = some ty) {v : Value} (hn : narrow ty v = v) (hfit : fits ty v = true) (hdg2 : decode cc pc = .ok (.putfield index, 3)) (hJ2 : ∀ f, kJ N0 L f → kJ N0 L2 (f.set k v))
    (kk : ∀ (H1 : Heap) (locs1 : List Loc) (fs1 : List Value), kJ N0 L2 fs1 → va_P D cl ((a, .inr (ci, fs1)) :: wr) H1 → va_D A ((a, .inr (ci, fs1)) :: wr) → va_S A H0 H1 locs1 → W p l e R s m args below meth c H1 locs1 cells slots Q (F0 m (pc + 3) ls rest)) : W p l e R s m args below meth c H locs cells slots Q (F0 m pc ls (v :: .ref a :: rest)) := by
  refine va_put (D := D) (ci := ci) (v := v) (ty := ty) (C := C) (T := T) (N := N) hexec hb hts hin ty0 hty hnm hown hK hP hD hS 0 rfl hc k hk hlink (fun _ h9 => h9) hfin hd hn hfit (by rw [hJ.1]; exact hkl) hdg2 (fun H2 locs2 hP hD hS => ?_)
  exact kk H2 locs2 (fs.set k v) (hJ2 fs hJ) hP hD hS
/-- the same of a final field, in the constructor -/
theorem k_putF {N0 : Nat} {L : List (Nat × Value)} (L2 : List (Nat × Value)) {fs : List Value} {wr : va_W} {ci : Nat} {C : String} {T : u_T} {N index : Nat} {Ts : List Cond} (hts : ∀ w ∈ Ts, w.before args s = true) (hin : ∀ w ∈ u_ws C T N, w ∈ Ts) (ty0 : Nat → FieldType) (hty : ∀ k, k < N → parseFieldDescriptor (T k).2.2.1 = some (ty0 k)) (hnm : ∀ a, a < N → ∀ b, b < N → a ≠ b → (T a).2.1 ≠ (T b).2.1)
    (hexec : p.tables.exec = Jvm.exec) (hb : c.code = cc) (hown : s.vm.findClass C = some m.cls) (hin2 : meth.name = "<init>") (hK : va_K D cl tys s) (hc : cl[ci]? = some (C, T, N)) (hJ : kJ N0 L fs) (hP : va_P D cl ((a, .inr (ci, fs)) :: wr) H) (hD : va_D A ((a, .inr (ci, fs)) :: wr)) (hS : va_S A H0 H locs)
    (k : Nat) (hk : k < N) (hkl : k < N0) (hdecl : (T k).1 = C) (hlink : (Cond.fieldLink C index C (T k).2.1 (T k).2.2.1).before args s = true) (hfin : (T k).2.2.2 = true) {ty : FieldType} (hd : parseFieldDescriptor (T k).2.2.1 = some ty) {v : Value} (hn : narrow ty v = v) (hfit : fits ty v = true) (hdg2 : decode cc pc = .ok (.putfield index, 3)) (hJ2 : ∀ f, kJ N0 L f → kJ N0 L2 (f.set k v))
    (kk : ∀ (H1 : Heap) (locs1 : List Loc) (fs1 : List Value), kJ N0 L2 fs1 → va_P D cl ((a, .inr (ci, fs1)) :: wr) H1 → va_D A ((a, .inr (ci, fs1)) :: wr) → va_S A H0 H1 locs1 → W p l e R s m args below meth c H1 locs1 cells slots Q (F0 m (pc + 3) ls rest)) : W p l e R s m args below meth c H locs cells slots Q (F0 m pc ls (v :: .ref a :: rest)) := by
  refine va_putF (D := D) (ci := ci) (v := v) (ty := ty) (C := C) (T := T) (N := N) hexec hb hts hin ty0 hty hnm hown hK hP hD hS 0 rfl hc k hk hlink (fun _ h9 => by rw [hdecl] at h9; exact h9) hfin hin2 hdecl hd hn hfit (by rw [hJ.1]; exact hkl) hdg2 (fun H2 locs2 hP hD hS => ?_)
  exact kk H2 locs2 (fs.set k v) (hJ2 fs hJ) hP hD hS
/-- aastore of a text constant into the first array of the world; which one is forgotten -/
theorem k_aast {wr : va_W} (hexec : p.tables.exec = Jvm.exec) (hb : c.code = cc) (hK : va_K D cl tys s) {cA : ClassId} {n v : Nat} {f : Nat → Option Nat} (hP : va_P D cl ((a, .inl (cA, n, .inr (.inr (.inr (.inr f))))) :: wr) H) (hD : va_D A ((a, .inl (cA, n, .inr (.inr (.inr (.inr f))))) :: wr)) (hS : va_S A H0 H locs) (t0 : Nat) {E : String} (ht : tys[t0]? = some (cA, .object E)) (hr : va_Any E s H v) {i : Int32} (hin : vp_in i n) (hdg : decode cc pc = .ok (.aastore, 1))
    (kk : ∀ (H1 : Heap) (locs1 : List Loc) (f1 : Nat → Option Nat), va_P D cl ((a, .inl (cA, n, .inr (.inr (.inr (.inr f1))))) :: wr) H1 → va_D A ((a, .inl (cA, n, .inr (.inr (.inr (.inr f1))))) :: wr) → va_S A H0 H1 locs1 → W p l e R s m args below meth c H1 locs1 cells slots Q (F0 m (pc + 1) ls rest)) : W p l e R s m args below meth c H locs cells slots Q (F0 m pc ls (.ref v :: .int i :: .ref a :: rest)) :=
  va_astqM hexec hb hK hP hD hS 0 t0 rfl ht hr hin hdg (fun H1 locs1 h1 h2 h3 => kk H1 locs1 _ h1 h2 h3)
end KA
/-- the two statics of Throwable: null or some reference, their cells not in A -/
def tZ (A : Nat → Prop) (U : State) (H : Heap) : Prop := va_Zq "java/lang/Throwable" "UNASSIGNED_STACK" "[Ljava/lang/StackTraceElement;" A U H ∧ va_Zq "java/lang/Throwable" "SUPPRESSED_SENTINEL" "Ljava/util/List;" A U H
theorem tZ.moved {A : Nat → Prop} {u U : State} {H : Heap} (hvm : u.vm.Alike U.vm) (h : tZ A u H) : tZ A U H := ⟨va_Zq.moved hvm h.1, va_Zq.moved hvm h.2⟩
theorem tZ.kept {A : Nat → Prop} {U : State} {H H1 : Heap} (h : tZ A U H) (hq : ∀ a : Nat, a < H.size → ¬ A a → H1[a]? = H[a]?) : tZ A U H1 := ⟨va_Zq.kept h.1 hq, va_Zq.kept h.2 hq⟩
theorem tZ.narrow {A B : Nat → Prop} {U : State} {H : Heap} (h : tZ A U H) (hAB : ∀ q, B q → A q) : tZ B U H := ⟨va_Zq.narrow h.1 hAB, va_Zq.narrow h.2 hAB⟩
/-- a static that is null or a reference: its value, fit for a field of objects or arrays -/
theorem zq_val {C n d : String} {A : Nat → Prop} {U : State} {H : Heap} (h : va_Zq C n d A U H) : ∃ v : Value, va_Z C n d v A U H ∧ (∀ x, narrow (.object x) v = v ∧ fits (.object x) v = true) ∧ (∀ x, narrow (.array x) v = v ∧ fits (.array x) v = true) := by
  rcases h with h | ⟨t, h⟩
  · exact ⟨.null, h, fun _ => ⟨rfl, rfl⟩, fun _ => ⟨rfl, rfl⟩⟩
  · exact ⟨.ref t, h, fun _ => ⟨rfl, rfl⟩, fun _ => ⟨rfl, rfl⟩⟩
/-- a text constant: where it lies, a String, not in A -/
def sT (own : String) (A : Nat → Prop) (x : Nat × String) (U : State) (q : Nat) : Prop := vk_R own x.1 x.2 q U ∧ va_Any "java/lang/String" U U.heap q ∧ ¬ A q
theorem sT.any {own : String} {A : Nat → Prop} {x : Nat × String} {s : State} {q : Nat} {H : Heap} {locs : List Loc} (h : sT own A x s q) (hS : va_S A s.heap H locs) : va_Any "java/lang/String" s H q := by
  obtain ⟨-, ⟨cell, h1, h2, h3, h4⟩, hn⟩ := h
  exact ⟨cell, by rw [hS.2.1 q (Array.getElem?_eq_some_iff.mp h1).1 hn]; exact h1, h2, h3, h4⟩
theorem sT.moved {own : String} {A B : Nat → Prop} {x : Nat × String} {u U : State} {q : Nat} (h : sT own A x u q) (hW : u.WarmedH U.vm) (hq : ∀ a : Nat, a < u.heap.size → ¬ A a → U.heap[a]? = u.heap[a]?) (hB : ∀ q, B q → A q) : sT own B x U q := by
  obtain ⟨h0, ⟨cell, h1, h2, ⟨kC, h3⟩, h4⟩, hn⟩ := h
  refine ⟨vk_R.warm hW h0, ⟨cell, by rw [hq q (Array.getElem?_eq_some_iff.mp h1).1 hn]; exact h1, h2, ?_, ?_⟩, fun z => hn (hB _ z)⟩
  · obtain ⟨k', hk', -⟩ := hW.alike.2.2 _ _ h3
    exact ⟨k', hk'⟩
  · intro comp hc
    rw [hW.alike.assignable]
    exact h4 comp (by rw [← hW.alike.findClass]; exact hc)
/-- arrays over a type are there -/
def aO (ty : FieldType) (U : State) : Prop := (Cond.arrayOver ty).before #[] U = true
theorem aO.moved {ty : FieldType} {u U : State} (hvm : u.vm.Alike U.vm) (h : aO ty u) : aO ty U := by
  have h2 : (Cond.arrayOver ty).before #[] (u.setVm U.vm) = true := by rw [Cond.arrayOver_setVmC hvm]; exact h
  exact h2
theorem aO.use {ty : FieldType} {U : State} {A : Array Value} (h : aO ty U) : (Cond.arrayOver ty).before A U = true := h
theorem aO.of {ty : FieldType} {U : State} {A : Array Value} (h : (Cond.arrayOver ty).before A U = true) : aO ty U := h
end
section
/-! The words: one list for all walks -/
def wB_0 : List Cond := [Cond.methodLink RX13 1 objectInit, Cond.instanceMethod objectInit, Cond.code objectInit ⟨#[0xb1]⟩ 1 none, Cond.classLink RX13 7 RX12, Cond.instantiable RX12 6, Cond.initialized RX12, Cond.fieldLink RX13 10 "MeetingHouseModel" "halt" "LMeetingHouseModel$Halt;", Cond.arrayClass .int, Cond.fieldLink RX13 16 "MeetingHouseModel" "tape" "[I", Cond.classLink RX13 20 RJ0, Cond.fieldLink RX13 94 "MeetingHouseModel" "words" "[Ljava/lang/String;", Cond.fieldLink RX13 154 "MeetingHouseModel" "signs" "[Ljava/lang/String;", Cond.fieldLink RX13 157 "MeetingHouseModel" "tKind" "[I", Cond.fieldLink RX13 160 "MeetingHouseModel" "tValue" "[I", Cond.fieldLink RX13 163 "MeetingHouseModel" "tLine" "[I", Cond.fieldLink RX13 166 "MeetingHouseModel" "tBlanks" "[I", Cond.fieldLink RX13 169 "MeetingHouseModel" "nameAt" "[I", Cond.fieldLink RX13 172 "MeetingHouseModel" "nameSize" "[I", Cond.fieldLink RX13 175 "MeetingHouseModel" "nameText" "[I", Cond.fieldLink RX13 178 "MeetingHouseModel" "stringAt" "[I", Cond.fieldLink RX13 181 "MeetingHouseModel" "stringSize" "[I", Cond.fieldLink RX13 184 "MeetingHouseModel" "stringText" "[I", Cond.fieldLink RX13 187 "MeetingHouseModel" "kind" "[I", Cond.fieldLink RX13 190 "MeetingHouseModel" "line" "[I", Cond.fieldLink RX13 193 "MeetingHouseModel" "a" "[I", Cond.fieldLink RX13 196 "MeetingHouseModel" "b" "[I", Cond.fieldLink RX13 199 "MeetingHouseModel" "c" "[I", Cond.fieldLink RX13 202 "MeetingHouseModel" "sym" "[I", Cond.fieldLink RX13 205 "MeetingHouseModel" "next" "[I", Cond.fieldLink RX13 208 "MeetingHouseModel" "type" "[I", Cond.fieldLink RX13 211 "MeetingHouseModel" "spec" "[I", Cond.fieldLink RX13 214 "MeetingHouseModel" "result" "[I", Cond.fieldLink RX13 217 "MeetingHouseModel" "inner" "[I", Cond.fieldLink RX13 220 "MeetingHouseModel" "sName" "[I", Cond.fieldLink RX13 223 "MeetingHouseModel" "sKind" "[I", Cond.fieldLink RX13 226 "MeetingHouseModel" "sType" "[I", Cond.fieldLink RX13 229 "MeetingHouseModel" "sMany" "[I", Cond.fieldLink RX13 232 "MeetingHouseModel" "sNode" "[I", Cond.fieldLink RX13 235 "MeetingHouseModel" "sLine" "[I", Cond.fieldLink RX13 238 "MeetingHouseModel" "sUnit" "[I"]
def wB_1 : List Cond := [Cond.fieldLink RX13 241 "MeetingHouseModel" "sSlot" "[I", Cond.arrayClass .boolean, Cond.fieldLink RX13 244 "MeetingHouseModel" "sFormal" "[Z", Cond.fieldLink RX13 248 "MeetingHouseModel" "sOf" "[I", Cond.fieldLink RX13 251 "MeetingHouseModel" "sE" "[I", Cond.fieldLink RX13 254 "MeetingHouseModel" "knownSymbol" "[I", Cond.fieldLink RX13 257 "MeetingHouseModel" "unitAround" "[I", Cond.fieldLink RX13 260 "MeetingHouseModel" "unitSlots" "[I", Cond.fieldLink RX13 263 "MeetingHouseModel" "unitOf" "[I", Cond.fieldLink RX13 266 "MeetingHouseModel" "symbolsFrom" "[I", Cond.fieldLink RX13 269 "MeetingHouseModel" "ownFrom" "[I", Cond.fieldLink RX13 272 "MeetingHouseModel" "sConstant" "[Z", Cond.fieldLink RX13 275 "MeetingHouseModel" "sValue" "[I", Cond.fieldLink RX13 278 "MeetingHouseModel" "tried" "[I", Cond.fieldLink RX13 281 "MeetingHouseModel" "isTried" "[Z", Cond.arrayClass .long, Cond.fieldLink RX13 284 "MeetingHouseModel" "weightOf" "[J", Cond.fieldLink RX13 288 "MeetingHouseModel" "baseOf" "[I", Cond.fieldLink RX13 291 "MeetingHouseModel" "countOf" "[I", Cond.constant RX13 294 (32768), Cond.fieldLink RX13 295 "MeetingHouseModel" "effectOf" "[I", Cond.fieldLink RX13 298 "MeetingHouseModel" "effectHow" "[I", Cond.fieldLink RX13 301 "MeetingHouseModel" "effectFrom" "[I", Cond.fieldLink RX13 304 "MeetingHouseModel" "effectTo" "[I", Cond.fieldLink RX13 307 "MeetingHouseModel" "hasTalk" "[Z", Cond.fieldLink RX13 310 "MeetingHouseModel" "placeBits" "[J", Cond.fieldLink RX13 313 "MeetingHouseModel" "freeSymbol" "[I", Cond.fieldLink RX13 316 "MeetingHouseModel" "isFixed" "[Z", Cond.fieldLink RX13 319 "MeetingHouseModel" "keptAt" "[I", Cond.fieldLink RX13 322 "MeetingHouseModel" "keptBits" "[J", Cond.fieldLink RX13 325 "MeetingHouseModel" "argSymbol" "[I", Cond.fieldLink RX13 328 "MeetingHouseModel" "argAll" "[Z", Cond.fieldLink RX13 331 "MeetingHouseModel" "argBits" "[J", Cond.fieldLink RX13 334 "MeetingHouseModel" "touchedSymbol" "[I", Cond.fieldLink RX13 337 "MeetingHouseModel" "aheadAll" "[Z", Cond.fieldLink RX13 340 "MeetingHouseModel" "aheadBits" "[J", Cond.fieldLink RX13 343 "MeetingHouseModel" "nowAll" "[Z", Cond.fieldLink RX13 346 "MeetingHouseModel" "nowBits" "[J", Cond.constant RX13 349 (65536), Cond.fieldLink RX13 350 "MeetingHouseModel" "heap" "[I"]
def wB_2 : List Cond := [Cond.fieldLink RX13 353 "MeetingHouseModel" "changedBy" "[I", Cond.fieldLink RX13 356 "MeetingHouseModel" "usedBy" "[I", Cond.fieldLink RX13 359 "MeetingHouseModel" "pieceAt" "[I", Cond.fieldLink RX13 362 "MeetingHouseModel" "pieceSize" "[I", Cond.classLink RX13 365 "[I", Cond.fieldLink RX13 366 "MeetingHouseModel" "pages" "[[I", Cond.fieldLink RX13 370 "MeetingHouseModel" "gapAt" "[I", Cond.fieldLink RX13 373 "MeetingHouseModel" "gapSize" "[I", Cond.fieldLink RX13 376 "MeetingHouseModel" "out" "[I", Cond.fieldLink RX13 379 "MeetingHouseModel" "input" "[I", Cond.fieldLink RX13 382 "MeetingHouseModel" "meeting" "[I", Cond.fieldLink RX13 385 "MeetingHouseModel" "order" "[I", Cond.fieldLink RX13 388 "MeetingHouseModel" "isSlot" "[Z", Cond.fieldLink RX13 391 "MeetingHouseModel" "pNumber" "[I", Cond.fieldLink RX13 394 "MeetingHouseModel" "pState" "[I", Cond.fieldLink RX13 397 "MeetingHouseModel" "pParent" "[I", Cond.fieldLink RX13 400 "MeetingHouseModel" "pFrame" "[I", Cond.fieldLink RX13 403 "MeetingHouseModel" "pOwn" "[I", Cond.fieldLink RX13 406 "MeetingHouseModel" "pTop" "[I", Cond.fieldLink RX13 409 "MeetingHouseModel" "pLeft" "[I", Cond.fieldLink RX13 412 "MeetingHouseModel" "pLine" "[I", Cond.fieldLink RX13 415 "MeetingHouseModel" "pFault" "[I", Cond.fieldLink RX13 418 "MeetingHouseModel" "pChannel" "[I", Cond.fieldLink RX13 421 "MeetingHouseModel" "pTime" "[I", Cond.fieldLink RX13 424 "MeetingHouseModel" "pBlock" "[I", Cond.fieldLink RX13 427 "MeetingHouseModel" "pSize" "[I", Cond.fieldLink RX13 430 "MeetingHouseModel" "pDone" "[Z", Cond.fieldLink RX13 433 "MeetingHouseModel" "pCalls" "[I", Cond.fieldLink RX13 436 "MeetingHouseModel" "sheets" "[[I", Cond.fieldLink RX13 439 "MeetingHouseModel" "tableAt" "[I", Cond.fieldLink RX13 442 "MeetingHouseModel" "tableSize" "[I", Cond.fieldLink RX13 445 "MeetingHouseModel" "vAt" "[I", Cond.fieldLink RX13 448 "MeetingHouseModel" "vSize" "[I", Cond.methodLink RX13 9 yX12_init, Cond.instanceMethod yX12_init, Cond.code yX12_init cX12_init 1 none, Cond.methodLink RX12 3 yR4, Cond.instanceMethod yR4, Cond.code yR4 cR4 5 none, Cond.initialized RRt]
def wB_3 : List Cond := [Cond.methodLink RRt 16 yE4, Cond.instanceMethod yE4, Cond.code yE4 cE4 5 none, Cond.initialized REx, Cond.methodLink REx 16 yT4, Cond.instanceMethod yT4, Cond.code yT4 cT4 5 none, Cond.initialized RTh, Cond.methodLink RTh 1 objectInit, Cond.fieldLink RTh 7 RTh "cause" "Ljava/lang/Throwable;", Cond.fieldLink RTh 13 RTh "UNASSIGNED_STACK" "[Ljava/lang/StackTraceElement;", Cond.fieldLink RTh 17 RTh "stackTrace" "[Ljava/lang/StackTraceElement;", Cond.fieldLink RTh 20 RTh "SUPPRESSED_SENTINEL" "Ljava/util/List;", Cond.fieldLink RTh 24 RTh "suppressedExceptions" "Ljava/util/List;", Cond.fieldLink RTh 31 RTh "detailMessage" "Ljava/lang/String;", Cond.fieldLink RX13 451 "MeetingHouseModel" "thrown" "I", Cond.fieldLink RX13 1122 "MeetingHouseModel" "begun" "Z", Cond.code yX13_process_ cX13_process_ 5 (some .int), Cond.code yX13_back cX13_back 2 (some .int), Cond.fieldLink RX13 455 "MeetingHouseModel" "taped" "I", Cond.code yX13_begin cX13_begin 3 none, Cond.fieldLink RX13 1119 "MeetingHouseModel" "there" "Z", Cond.code yX13_run cX13_run 5 (some .int), Cond.code yX13_thrown cX13_thrown 1 (some .int), Cond.code yX13_state cX13_state 1 (some .int), Cond.code yX13_count cX13_count 4 (some .int), Cond.methodLink RX13 1501 yX13_state, Cond.instanceMethod yX13_state, Cond.selects RX13 yX13_state yX13_state, Cond.initialized RX13, Cond.code yX13_key cX13_key 4 (some .boolean), Cond.code yX13_output cX13_output 2 (some .int), Cond.code yX13_cell cX13_cell 7 (some .int), Cond.code yX13_meeting cX13_meeting 3 (some .int), Cond.code yX13_clashes cX13_clashes 1 (some .int), Cond.code yX13_put cX13_put 3 none, Cond.code yX13_feed cX13_feed 6 (some .int), Cond.methodLink RX13 458 yX13_put, Cond.instanceMethod yX13_put, Cond.selects RX13 yX13_put yX13_put]
def wB_4 : List Cond := [Cond.code yX13_token cX13_token 5 none, Cond.fieldLink RX13 472 "MeetingHouseModel" "tokens" "I", Cond.code yX13_scanAll cX13_scanAll 7 none, Cond.fieldLink RX13 475 "MeetingHouseModel" "names" "I", Cond.fieldLink RX13 478 "MeetingHouseModel" "nameEnd" "I", Cond.fieldLink RX13 525 "MeetingHouseModel" "strings" "I", Cond.fieldLink RX13 528 "MeetingHouseModel" "stringEnd" "I", Cond.fieldLink RX13 531 "MeetingHouseModel" "realTokens" "I", Cond.fieldLink RX13 534 "MeetingHouseModel" "realLines" "I", Cond.fieldLink RX13 462 "MeetingHouseModel" "at" "I", Cond.methodLink RX13 540 yX13_token, Cond.instanceMethod yX13_token, Cond.selects RX13 yX13_token yX13_token, Cond.code yX13_look cX13_look 1 (some .int), Cond.fieldLink RX13 547 "MeetingHouseModel" "t" "I", Cond.code yX13_isAt cX13_isAt 2 (some .boolean), Cond.methodLink RX13 560 yX13_look, Cond.instanceMethod yX13_look, Cond.selects RX13 yX13_look yX13_look, Cond.code yX13_stop cX13_stop 3 (some (.object "MeetingHouseModel$Halt")), Cond.fieldLink RX13 550 "MeetingHouseModel" "fault" "I", Cond.fieldLink RX13 553 "MeetingHouseModel" "faultLine" "I", Cond.code yX13_lineAt cX13_lineAt 3 none, Cond.methodLink RX13 578 yX13_isAt, Cond.instanceMethod yX13_isAt, Cond.selects RX13 yX13_isAt yX13_isAt, Cond.methodLink RX13 556 yX13_stop, Cond.instanceMethod yX13_stop, Cond.selects RX13 yX13_stop yX13_stop, Cond.code yX13_process cX13_process 5 (some .int), Cond.methodLink RX13 588 yX13_lineAt, Cond.instanceMethod yX13_lineAt, Cond.selects RX13 yX13_lineAt yX13_lineAt, Cond.codeWith yX13_parses cX13_parses 2 (some .boolean) [(20, 45, 46, 7)], Cond.fieldLink RX13 544 "MeetingHouseModel" "nodes" "I", Cond.fieldLink RX13 669 "MeetingHouseModel" "open" "I", Cond.methodLink RX13 604 yX13_process, Cond.instanceMethod yX13_process, Cond.selects RX13 yX13_process yX13_process, Cond.code yX13_read cX13_read 1 (some .int)]
def wB_5 : List Cond := [Cond.methodLink RX13 1116 yX13_scanAll, Cond.instanceMethod yX13_scanAll, Cond.selects RX13 yX13_scanAll yX13_scanAll, Cond.methodLink RX13 1125 yX13_parses, Cond.instanceMethod yX13_parses, Cond.selects RX13 yX13_parses yX13_parses, Cond.code yX5_init cX5_init 2 none, Cond.methodLink RX5 3 objectInit, Cond.fieldLink RX5 9 "MeetingHouse$Proc" "held" "[I", Cond.fieldLink RX5 15 "MeetingHouse$Proc" "places" "[I", Cond.fieldLink RX5 18 "MeetingHouse$Proc" "row" "I", Cond.code yX2_init cX2_init 1 none, Cond.methodLink RX2 3 objectInit, Cond.fieldLink RX2 9 "MeetingHouse$Heap" "cells" "[I", Cond.fieldLink RX2 15 "MeetingHouse$Heap" "start" "[I", Cond.fieldLink RX2 18 "MeetingHouse$Heap" "length" "[I", Cond.fieldLink RX2 21 "MeetingHouse$Heap" "line" "[I", Cond.fieldLink RX2 24 "MeetingHouse$Heap" "each" "[I", Cond.fieldLink RX2 27 "MeetingHouse$Heap" "before" "[I", Cond.fieldLink RX2 30 "MeetingHouse$Heap" "after" "[I", Cond.code yX4_init cX4_init 2 none, Cond.methodLink RX4 3 objectInit, Cond.fieldLink RX4 9 "MeetingHouse$Names" "kind" "[I", Cond.fieldLink RX4 15 "MeetingHouse$Names" "spec" "[I", Cond.fieldLink RX4 18 "MeetingHouse$Names" "number" "[I", Cond.fieldLink RX4 21 "MeetingHouse$Names" "of" "[I", Cond.fieldLink RX4 24 "MeetingHouse$Names" "node" "[I", Cond.fieldLink RX4 27 "MeetingHouse$Names" "flags" "[I", Cond.fieldLink RX4 30 "MeetingHouse$Names" "slot" "[I", Cond.fieldLink RX4 33 "MeetingHouse$Names" "title" "[I", Cond.fieldLink RX4 36 "MeetingHouse$Names" "before" "[I", Cond.fieldLink RX4 39 "MeetingHouse$Names" "latest" "[I", Cond.fieldLink RX4 42 "MeetingHouse$Names" "stamps" "[I", Cond.fieldLink RX4 45 "MeetingHouse$Names" "visible" "[I", Cond.fieldLink RX4 48 "MeetingHouse$Names" "tree" "LMeetingHouse$Tree;", Cond.code yX9_init cX9_init 3 none, Cond.methodLink RX9 3 objectInit, Cond.fieldLink RX9 9 "MeetingHouse$Types" "marks" "[I", Cond.fieldLink RX9 15 "MeetingHouse$Types" "tree" "LMeetingHouse$Tree;", Cond.fieldLink RX9 19 "MeetingHouse$Types" "names" "LMeetingHouse$Names;"]
def wB_6 : List Cond := [Cond.code yX6_init cX6_init 3 none, Cond.methodLink RX6 5 objectInit, Cond.fieldLink RX6 11 "MeetingHouse$Sides" "bound" "[J", Cond.fieldLink RX6 15 "MeetingHouse$Sides" "marks" "[I", Cond.fieldLink RX6 19 "MeetingHouse$Sides" "replicators" "[I", Cond.fieldLink RX6 22 "MeetingHouse$Sides" "values" "[I", Cond.fieldLink RX6 25 "MeetingHouse$Sides" "pair" "[I", Cond.constant RX6 28 (57400), Cond.fieldLink RX6 29 "MeetingHouse$Sides" "kept" "[I", Cond.fieldLink RX6 32 "MeetingHouse$Sides" "ahead" "[I", Cond.fieldLink RX6 35 "MeetingHouse$Sides" "rowOf" "[I", Cond.fieldLink RX6 38 "MeetingHouse$Sides" "rowMark" "[I", Cond.fieldLink RX6 41 "MeetingHouse$Sides" "tree" "LMeetingHouse$Tree;", Cond.fieldLink RX6 45 "MeetingHouse$Sides" "names" "LMeetingHouse$Names;", Cond.code yX10_init cX10_init 4 none, Cond.methodLink RX10 3 objectInit, Cond.fieldLink RX10 9 "MeetingHouse$Uses" "line" "[I", Cond.fieldLink RX10 15 "MeetingHouse$Uses" "root" "[I", Cond.fieldLink RX10 18 "MeetingHouse$Uses" "index" "[I", Cond.fieldLink RX10 21 "MeetingHouse$Uses" "flags" "[I", Cond.constant RX10 24 (44000), Cond.fieldLink RX10 25 "MeetingHouse$Uses" "outside" "[I", Cond.fieldLink RX10 28 "MeetingHouse$Uses" "outsideFrom" "[I", Cond.fieldLink RX10 31 "MeetingHouse$Uses" "outsideTo" "[I", Cond.fieldLink RX10 34 "MeetingHouse$Uses" "pars" "[I", Cond.fieldLink RX10 37 "MeetingHouse$Uses" "gathered" "[I", Cond.fieldLink RX10 40 "MeetingHouse$Uses" "touched" "[I", Cond.fieldLink RX10 43 "MeetingHouse$Uses" "tree" "LMeetingHouse$Tree;", Cond.fieldLink RX10 47 "MeetingHouse$Uses" "names" "LMeetingHouse$Names;", Cond.fieldLink RX10 51 "MeetingHouse$Uses" "sides" "LMeetingHouse$Sides;", Cond.code yX0_init cX0_init 3 none, Cond.methodLink RX0 3 objectInit, Cond.constant RX0 11 (40000), Cond.fieldLink RX0 12 "MeetingHouse$Coder" "code" "[I", Cond.fieldLink RX0 16 "MeetingHouse$Coder" "topSlots" "[I", Cond.fieldLink RX0 19 "MeetingHouse$Coder" "topCells" "[I", Cond.fieldLink RX0 22 "MeetingHouse$Coder" "tree" "LMeetingHouse$Tree;", Cond.fieldLink RX0 26 "MeetingHouse$Coder" "names" "LMeetingHouse$Names;", Cond.code yX8_init cX8_init 2 none, Cond.methodLink RX8 3 objectInit]
def wB_7 : List Cond := [Cond.fieldLink RX8 9 "MeetingHouse$Tree" "kind" "[I", Cond.fieldLink RX8 15 "MeetingHouse$Tree" "line" "[I", Cond.fieldLink RX8 18 "MeetingHouse$Tree" "a" "[I", Cond.fieldLink RX8 21 "MeetingHouse$Tree" "b" "[I", Cond.fieldLink RX8 24 "MeetingHouse$Tree" "c" "[I", Cond.fieldLink RX8 27 "MeetingHouse$Tree" "next" "[I", Cond.fieldLink RX8 30 "MeetingHouse$Tree" "val" "[I", Cond.fieldLink RX8 33 "MeetingHouse$Tree" "sym" "[I", Cond.fieldLink RX8 36 "MeetingHouse$Tree" "type" "[I", Cond.fieldLink RX8 39 "MeetingHouse$Tree" "worth" "[I", Cond.fieldLink RX8 42 "MeetingHouse$Tree" "text" "LMeetingHouse$Text;", Cond.code yX7_init cX7_init 1 none, Cond.methodLink RX7 3 objectInit, Cond.arrayClass .byte, Cond.fieldLink RX7 9 "MeetingHouse$Text" "tape" "[B", Cond.fieldLink RX7 15 "MeetingHouse$Text" "kind" "[I", Cond.fieldLink RX7 19 "MeetingHouse$Text" "value" "[I", Cond.fieldLink RX7 22 "MeetingHouse$Text" "line" "[I", Cond.fieldLink RX7 25 "MeetingHouse$Text" "blanks" "[I", Cond.fieldLink RX7 28 "MeetingHouse$Text" "signs" "[I", Cond.fieldLink RX7 31 "MeetingHouse$Text" "letters" "[B", Cond.fieldLink RX7 34 "MeetingHouse$Text" "nameFrom" "[I", Cond.fieldLink RX7 37 "MeetingHouse$Text" "nameNext" "[I", Cond.fieldLink RX7 40 "MeetingHouse$Text" "bucket" "[I", Cond.fieldLink RX1 11 "MeetingHouse$Hall" "procs" "[LMeetingHouse$Proc;", Cond.classLink RX1 9 RX5, Cond.instantiable RX5 17, Cond.initialized RX5, Cond.methodLink RX1 34 yX5_init, Cond.instanceMethod yX5_init, Cond.fieldLink RX1 17 "MeetingHouse$Hall" "order" "[I", Cond.code yX1_init cX1_init 2 none, Cond.methodLink RX1 3 objectInit, Cond.fieldLink RX1 21 "MeetingHouse$Hall" "shown" "[B", Cond.fieldLink RX1 25 "MeetingHouse$Hall" "keys" "[I", Cond.fieldLink RX1 28 "MeetingHouse$Hall" "message" "[I", Cond.fieldLink RX1 31 "MeetingHouse$Hall" "facts" "[I", Cond.code yX3_init cX3_init 3 none, Cond.methodLink RX3 3 objectInit, Cond.classLink RX3 9 RX2]
def wB_8 : List Cond := [Cond.instantiable RX2 13, Cond.initialized RX2, Cond.instanceMethod yX2_init, Cond.fieldLink RX3 12 "MeetingHouse$Machine" "heap" "LMeetingHouse$Heap;", Cond.classLink RX3 18 RX1, Cond.instantiable RX1 16, Cond.initialized RX1, Cond.methodLink RX3 20 yX1_init, Cond.instanceMethod yX1_init, Cond.fieldLink RX3 21 "MeetingHouse$Machine" "hall" "LMeetingHouse$Hall;", Cond.fieldLink RX3 25 "MeetingHouse$Machine" "rows" "[I", Cond.fieldLink RX3 29 "MeetingHouse$Machine" "stack" "[I", Cond.fieldLink RX3 32 "MeetingHouse$Machine" "refs" "[I", Cond.fieldLink RX3 35 "MeetingHouse$Machine" "sizes" "[I", Cond.fieldLink RX3 38 "MeetingHouse$Machine" "scratch" "[I", Cond.fieldLink RX3 41 "MeetingHouse$Machine" "coder" "LMeetingHouse$Coder;", Cond.fieldLink RX3 45 "MeetingHouse$Machine" "text" "LMeetingHouse$Text;", Cond.fieldLink RX3 49 "MeetingHouse$Hall" "procs" "[LMeetingHouse$Proc;", Cond.fieldLink RX3 53 "MeetingHouse$Machine" "current" "LMeetingHouse$Proc;", Cond.code yX11_init cX11_init 1 none, Cond.methodLink RX11 3 objectInit, Cond.classLink RX11 9 RX7, Cond.instantiable RX7 19, Cond.initialized RX7, Cond.instanceMethod yX7_init, Cond.fieldLink RX11 12 "MeetingHouse" "text" "LMeetingHouse$Text;", Cond.classLink RX11 16 RX8, Cond.instantiable RX8 17, Cond.initialized RX8, Cond.methodLink RX11 18 yX8_init, Cond.instanceMethod yX8_init, Cond.fieldLink RX11 21 "MeetingHouse" "tree" "LMeetingHouse$Tree;", Cond.classLink RX11 25 RX4, Cond.instantiable RX4 16, Cond.initialized RX4, Cond.methodLink RX11 27 yX4_init, Cond.instanceMethod yX4_init, Cond.fieldLink RX11 30 "MeetingHouse" "names" "LMeetingHouse$Names;", Cond.classLink RX11 34 RX9, Cond.instantiable RX9 6]
def wB_9 : List Cond := [Cond.initialized RX9, Cond.methodLink RX11 36 yX9_init, Cond.instanceMethod yX9_init, Cond.fieldLink RX11 39 "MeetingHouse" "types" "LMeetingHouse$Types;", Cond.classLink RX11 43 RX6, Cond.instantiable RX6 17, Cond.initialized RX6, Cond.methodLink RX11 45 yX6_init, Cond.instanceMethod yX6_init, Cond.fieldLink RX11 46 "MeetingHouse" "sides" "LMeetingHouse$Sides;", Cond.classLink RX11 50 RX10, Cond.instantiable RX10 19, Cond.initialized RX10, Cond.methodLink RX11 52 yX10_init, Cond.instanceMethod yX10_init, Cond.fieldLink RX11 55 "MeetingHouse" "uses" "LMeetingHouse$Uses;", Cond.classLink RX11 59 RX0, Cond.instantiable RX0 8, Cond.initialized RX0, Cond.methodLink RX11 61 yX0_init, Cond.instanceMethod yX0_init, Cond.fieldLink RX11 62 "MeetingHouse" "coder" "LMeetingHouse$Coder;", Cond.classLink RX11 66 RX3, Cond.instantiable RX3 21, Cond.initialized RX3, Cond.methodLink RX11 68 yX3_init, Cond.instanceMethod yX3_init, Cond.fieldLink RX11 71 "MeetingHouse" "machine" "LMeetingHouse$Machine;", Cond.fieldLink RX11 75 "MeetingHouse" "hasProgram" "Z", Cond.code yX3_press cX3_press 3 (some .boolean), Cond.fieldLink RX3 78 "MeetingHouse$Machine" "begun" "Z", Cond.code yX3_shown cX3_shown 2 (some .int), Cond.code yX3_tellProcess cX3_tellProcess 5 (some .int), Cond.code yX3_tellCell cX3_tellCell 5 (some .int), Cond.code yX3_tellMeeting cX3_tellMeeting 3 (some .int), Cond.code yX3_tally cX3_tally 2 (some .int), Cond.code yX11_key cX11_key 2 (some .boolean), Cond.methodLink RX11 149 yX3_press, Cond.instanceMethod yX3_press, Cond.selects RX3 yX3_press yX3_press]
def wB_10 : List Cond := [Cond.code yX11_output cX11_output 2 (some .int), Cond.methodLink RX11 153 yX3_shown, Cond.instanceMethod yX3_shown, Cond.selects RX3 yX3_shown yX3_shown, Cond.code yX11_process cX11_process 3 (some .int), Cond.methodLink RX11 156 yX3_tellProcess, Cond.instanceMethod yX3_tellProcess, Cond.selects RX3 yX3_tellProcess yX3_tellProcess, Cond.code yX11_cell cX11_cell 2 (some .int), Cond.methodLink RX11 160 yX3_tellCell, Cond.instanceMethod yX3_tellCell, Cond.selects RX3 yX3_tellCell yX3_tellCell, Cond.code yX11_meeting cX11_meeting 3 (some .int), Cond.methodLink RX11 163 yX3_tellMeeting, Cond.instanceMethod yX3_tellMeeting, Cond.selects RX3 yX3_tellMeeting yX3_tellMeeting, Cond.code yX11_clashes cX11_clashes 1 (some .int), Cond.code yX11_count cX11_count 2 (some .int), Cond.methodLink RX11 115 yX3_tally, Cond.instanceMethod yX3_tally, Cond.selects RX3 yX3_tally yX3_tally, Cond.fieldLink RX11 79 "MeetingHouse$Text" "length" "I", Cond.code yX11_back cX11_back 2 (some .int), Cond.code yX7_append cX7_append 3 none, Cond.fieldLink RX7 43 "MeetingHouse$Text" "length" "I", Cond.code yX11_feed cX11_feed 6 (some .int), Cond.methodLink RX11 83 yX7_append, Cond.instanceMethod yX7_append, Cond.selects RX7 yX7_append yX7_append]
def wB : List Cond := wB_0 ++ (wB_1 ++ (wB_2 ++ (wB_3 ++ (wB_4 ++ (wB_5 ++ (wB_6 ++ (wB_7 ++ (wB_8 ++ (wB_9 ++ (wB_10))))))))))
def wP : List Cond := wB ++ (wsX120 ++ (wsX130 ++ (wsX00 ++ (wsX10 ++ (wsX20 ++ (wsX30 ++ (wsX40 ++ (wsX50 ++ (wsX60 ++ (wsX70 ++ (wsX80 ++ (wsX90 ++ (wsX100 ++ (wsX110))))))))))))))
theorem bP {k0 w : Cond} (i : Nat) (h : wB[i]? = some w) : w ∈ k0 :: wP := List.mem_cons_of_mem _ (List.mem_append_left _ (List.mem_of_getElem? h))
theorem iX12 {k0 : Cond} : ∀ w ∈ u_ws RX12 TX12 6, w ∈ k0 :: wP := fun _ h => List.mem_cons_of_mem _ (List.mem_append_right _ (List.mem_append_left _ h))
theorem iX13 {k0 : Cond} : ∀ w ∈ u_ws RX13 TX13 180, w ∈ k0 :: wP := fun _ h => List.mem_cons_of_mem _ (List.mem_append_right _ (List.mem_append_right _ (List.mem_append_left _ h)))
theorem iX0 {k0 : Cond} : ∀ w ∈ u_ws RX0 TX0 8, w ∈ k0 :: wP := fun _ h => List.mem_cons_of_mem _ (List.mem_append_right _ (List.mem_append_right _ (List.mem_append_right _ (List.mem_append_left _ h))))
theorem iX1 {k0 : Cond} : ∀ w ∈ u_ws RX1 TX1 16, w ∈ k0 :: wP := fun _ h => List.mem_cons_of_mem _ (List.mem_append_right _ (List.mem_append_right _ (List.mem_append_right _ (List.mem_append_right _ (List.mem_append_left _ h)))))
theorem iX2 {k0 : Cond} : ∀ w ∈ u_ws RX2 TX2 13, w ∈ k0 :: wP := fun _ h => List.mem_cons_of_mem _ (List.mem_append_right _ (List.mem_append_right _ (List.mem_append_right _ (List.mem_append_right _ (List.mem_append_right _ (List.mem_append_left _ h))))))
theorem iX3 {k0 : Cond} : ∀ w ∈ u_ws RX3 TX3 21, w ∈ k0 :: wP := fun _ h => List.mem_cons_of_mem _ (List.mem_append_right _ (List.mem_append_right _ (List.mem_append_right _ (List.mem_append_right _ (List.mem_append_right _ (List.mem_append_right _ (List.mem_append_left _ h)))))))
theorem iX4 {k0 : Cond} : ∀ w ∈ u_ws RX4 TX4 16, w ∈ k0 :: wP := fun _ h => List.mem_cons_of_mem _ (List.mem_append_right _ (List.mem_append_right _ (List.mem_append_right _ (List.mem_append_right _ (List.mem_append_right _ (List.mem_append_right _ (List.mem_append_right _ (List.mem_append_left _ h))))))))
theorem iX5 {k0 : Cond} : ∀ w ∈ u_ws RX5 TX5 17, w ∈ k0 :: wP := fun _ h => List.mem_cons_of_mem _ (List.mem_append_right _ (List.mem_append_right _ (List.mem_append_right _ (List.mem_append_right _ (List.mem_append_right _ (List.mem_append_right _ (List.mem_append_right _ (List.mem_append_right _ (List.mem_append_left _ h)))))))))
theorem iX6 {k0 : Cond} : ∀ w ∈ u_ws RX6 TX6 17, w ∈ k0 :: wP := fun _ h => List.mem_cons_of_mem _ (List.mem_append_right _ (List.mem_append_right _ (List.mem_append_right _ (List.mem_append_right _ (List.mem_append_right _ (List.mem_append_right _ (List.mem_append_right _ (List.mem_append_right _ (List.mem_append_right _ (List.mem_append_left _ h))))))))))
theorem iX7 {k0 : Cond} : ∀ w ∈ u_ws RX7 TX7 19, w ∈ k0 :: wP := fun _ h => List.mem_cons_of_mem _ (List.mem_append_right _ (List.mem_append_right _ (List.mem_append_right _ (List.mem_append_right _ (List.mem_append_right _ (List.mem_append_right _ (List.mem_append_right _ (List.mem_append_right _ (List.mem_append_right _ (List.mem_append_right _ (List.mem_append_left _ h)))))))))))
theorem iX8 {k0 : Cond} : ∀ w ∈ u_ws RX8 TX8 17, w ∈ k0 :: wP := fun _ h => List.mem_cons_of_mem _ (List.mem_append_right _ (List.mem_append_right _ (List.mem_append_right _ (List.mem_append_right _ (List.mem_append_right _ (List.mem_append_right _ (List.mem_append_right _ (List.mem_append_right _ (List.mem_append_right _ (List.mem_append_right _ (List.mem_append_right _ (List.mem_append_left _ h))))))))))))
theorem iX9 {k0 : Cond} : ∀ w ∈ u_ws RX9 TX9 6, w ∈ k0 :: wP := fun _ h => List.mem_cons_of_mem _ (List.mem_append_right _ (List.mem_append_right _ (List.mem_append_right _ (List.mem_append_right _ (List.mem_append_right _ (List.mem_append_right _ (List.mem_append_right _ (List.mem_append_right _ (List.mem_append_right _ (List.mem_append_right _ (List.mem_append_right _ (List.mem_append_right _ (List.mem_append_left _ h)))))))))))))
theorem iX10 {k0 : Cond} : ∀ w ∈ u_ws RX10 TX10 19, w ∈ k0 :: wP := fun _ h => List.mem_cons_of_mem _ (List.mem_append_right _ (List.mem_append_right _ (List.mem_append_right _ (List.mem_append_right _ (List.mem_append_right _ (List.mem_append_right _ (List.mem_append_right _ (List.mem_append_right _ (List.mem_append_right _ (List.mem_append_right _ (List.mem_append_right _ (List.mem_append_right _ (List.mem_append_right _ (List.mem_append_left _ h))))))))))))))
theorem iX11 {k0 : Cond} : ∀ w ∈ u_ws RX11 TX11 9, w ∈ k0 :: wP := fun _ h => List.mem_cons_of_mem _ (List.mem_append_right _ (List.mem_append_right _ (List.mem_append_right _ (List.mem_append_right _ (List.mem_append_right _ (List.mem_append_right _ (List.mem_append_right _ (List.mem_append_right _ (List.mem_append_right _ (List.mem_append_right _ (List.mem_append_right _ (List.mem_append_right _ (List.mem_append_right _ (List.mem_append_right _ (h)))))))))))))))
/-- every word is good: a callee's words are among its caller's -/
theorem wB_good : wB.all goodWord = true := by decide +kernel
theorem wX12_good : wsX120.all goodWord = true := by decide +kernel
theorem wX13_good : wsX130.all goodWord = true := by decide +kernel
theorem wX0_good : wsX00.all goodWord = true := by decide +kernel
theorem wX1_good : wsX10.all goodWord = true := by decide +kernel
theorem wX2_good : wsX20.all goodWord = true := by decide +kernel
theorem wX3_good : wsX30.all goodWord = true := by decide +kernel
theorem wX4_good : wsX40.all goodWord = true := by decide +kernel
theorem wX5_good : wsX50.all goodWord = true := by decide +kernel
theorem wX6_good : wsX60.all goodWord = true := by decide +kernel
theorem wX7_good : wsX70.all goodWord = true := by decide +kernel
theorem wX8_good : wsX80.all goodWord = true := by decide +kernel
theorem wX9_good : wsX90.all goodWord = true := by decide +kernel
theorem wX10_good : wsX100.all goodWord = true := by decide +kernel
theorem wX11_good : wsX110.all goodWord = true := by decide +kernel
theorem wP_good : ∀ w ∈ wP, goodWord w = true := fun w h => (List.mem_append.mp h).elim (List.all_eq_true.mp wB_good w) ((fun h => (List.mem_append.mp h).elim (List.all_eq_true.mp wX12_good w) ((fun h => (List.mem_append.mp h).elim (List.all_eq_true.mp wX13_good w) ((fun h => (List.mem_append.mp h).elim (List.all_eq_true.mp wX0_good w) ((fun h => (List.mem_append.mp h).elim (List.all_eq_true.mp wX1_good w) ((fun h => (List.mem_append.mp h).elim (List.all_eq_true.mp wX2_good w) ((fun h => (List.mem_append.mp h).elim (List.all_eq_true.mp wX3_good w) ((fun h => (List.mem_append.mp h).elim (List.all_eq_true.mp wX4_good w) ((fun h => (List.mem_append.mp h).elim (List.all_eq_true.mp wX5_good w) ((fun h => (List.mem_append.mp h).elim (List.all_eq_true.mp wX6_good w) ((fun h => (List.mem_append.mp h).elim (List.all_eq_true.mp wX7_good w) ((fun h => (List.mem_append.mp h).elim (List.all_eq_true.mp wX8_good w) ((fun h => (List.mem_append.mp h).elim (List.all_eq_true.mp wX9_good w) ((fun h => (List.mem_append.mp h).elim (List.all_eq_true.mp wX10_good w) (List.all_eq_true.mp wX11_good w)))))))))))))))))))))))))))
theorem gP {k0 : Cond} (w : Cond) (i : Nat) (h : wB[i]? = some w) : GoodIn (k0 :: wP) (w :: wP) := by
  have hw : w ∈ wP := List.mem_append_left _ (List.mem_of_getElem? h)
  intro x hx
  rcases List.mem_cons.mp hx with e | hx
  · subst e
    exact ⟨List.mem_cons_of_mem _ hw, good_of_word (wP_good _ hw)⟩
  · exact ⟨List.mem_cons_of_mem _ hx, good_of_word (wP_good _ hx)⟩
/-- what matters of the fields of a MeetingHouseModel that was made: the halt, the tape, the tokens' rows; an empty tape, no program, no run -/
abbrev mL (qh q2 q7 q8 q9 q10 : Nat) : List (Nat × Value) := [(0, .ref qh), (2, .ref q2), (7, .ref q7), (8, .ref q8), (9, .ref q9), (10, .ref q10), (3, .int 0), (110, .int 0), (123, .int 0)]
end
section
/-! Own rows for the walker -/
theorem kJ_put {N : Nat} {L : List (Nat × Value)} {fs : List Value} (h : kJ N L fs) (k : Nat) (v : Value) (hl : k < N) : kJ N ((k, v) :: L.filter (fun x => x.1 != k)) (fs.set k v) :=
  kJ_up h k v _ (fun x hx => by
    rcases List.mem_cons.mp hx with e | hx
    · exact Or.inl e
    · obtain ⟨h1, h2⟩ := List.mem_filter.mp hx
      exact Or.inr ⟨h1, by simpa using h2⟩) hl
section KB
variable {p : Program} {l : Launch} {e : Env} {R : Room} {s : State} {m : MethodId} {args : Array Value} {below : List Frame} {meth : Method} {c : Code} {H : Heap} {locs : List Loc} {cells slots : Nat} {Q : State → Prop}
variable {cc : ByteArray} {pc : Nat} {ls : Array Slot} {rest : List Value} {D : va_G} {cl : List vw_C} {A : Nat → Prop} {a : Nat} {tys : List (ClassId × FieldType)} {ws : va_W} {H0 : Heap}
theorem k_i {x v : Int32} (h : x = v) (k : W p l e R s m args below meth c H locs cells slots Q (F0 m pc ls (.int v :: rest))) : W p l e R s m args below meth c H locs cells slots Q (F0 m pc ls (.int x :: rest)) := by
  rw [h]; exact k
theorem kq_put {N0 : Nat} {L : List (Nat × Value)} (L2 : List (Nat × Value)) {fs : List Value} {ci : Nat} {own C : String} {T : u_T} {N index : Nat} {Ts : List Cond} (hts : ∀ w ∈ Ts, w.before args s = true) (hin : ∀ w ∈ u_ws C T N, w ∈ Ts) (ty0 : Nat → FieldType) (hty : ∀ k, k < N → parseFieldDescriptor (T k).2.2.1 = some (ty0 k)) (hnm : ∀ a, a < N → ∀ b, b < N → a ≠ b → (T a).2.1 ≠ (T b).2.1)
    (hexec : p.tables.exec = Jvm.exec) (hb : c.code = cc) (hown : s.vm.findClass own = some m.cls) (hK : va_K D cl tys s) (hP : va_P D cl ws H) (hD : va_D A ws) (hS : va_S A H0 H locs) (q0 : Nat) (he : ws[q0]? = some (a, .inr (ci, fs))) (hc : cl[ci]? = some (C, T, N)) (hJ : kJ N0 L fs)
    (k : Nat) (hk : k < N) (hkl : k < N0) (hlink : (Cond.fieldLink own index (T k).1 (T k).2.1 (T k).2.2.1).before args s = true) (hfin : (T k).2.2.2 = false) {ty : FieldType} (hd : parseFieldDescriptor (T k).2.2.1 = some ty) {v : Value} (hn : narrow ty v = v) (hfit : fits ty v = true) (hdg2 : decode cc pc = .ok (.putfield index, 3)) (hJ2 : ∀ f, kJ N0 L f → kJ N0 L2 (f.set k v))
    (kk : ∀ (H1 : Heap) (locs1 : List Loc) (fs1 : List Value), kJ N0 L2 fs1 → va_P D cl (ws.set q0 (a, .inr (ci, fs1))) H1 → va_D A (ws.set q0 (a, .inr (ci, fs1))) → va_S A H0 H1 locs1 → W p l e R s m args below meth c H1 locs1 cells slots Q (F0 m (pc + 3) ls rest)) : W p l e R s m args below meth c H locs cells slots Q (F0 m pc ls (v :: .ref a :: rest)) := by
  refine va_put (D := D) (ci := ci) (v := v) (ty := ty) (C := C) (T := T) (N := N) hexec hb hts hin ty0 hty hnm hown hK hP hD hS q0 he hc k hk hlink (fun _ h9 => h9) hfin hd hn hfit (by rw [hJ.1]; exact hkl) hdg2 (fun H2 locs2 hP hD hS => ?_)
  exact kk H2 locs2 (fs.set k v) (hJ2 fs hJ) hP hD hS
theorem kq_iast (hexec : p.tables.exec = Jvm.exec) (hb : c.code = cc) (hK : va_K D cl tys s) (hP : va_P D cl ws H) (hD : va_D A ws) (hS : va_S A H0 H locs) (q0 t0 : Nat) {cA : ClassId} {n : Nat} {f : Nat → Int32} (ha : ws[q0]? = some (a, .inl (cA, n, .inl f))) (ht : tys[t0]? = some (cA, .int)) {i : Int32} {x : Int32} (hin : vp_in i n) (hdg : decode cc pc = .ok (.iastore, 1))
    (kk : ∀ (H1 : Heap) (locs1 : List Loc) (f1 : Nat → Int32), f1 = upd f i.toNatClampNeg x → va_P D cl (ws.set q0 (a, .inl (cA, n, .inl f1))) H1 → va_D A (ws.set q0 (a, .inl (cA, n, .inl f1))) → va_S A H0 H1 locs1 → W p l e R s m args below meth c H1 locs1 cells slots Q (F0 m (pc + 1) ls rest)) : W p l e R s m args below meth c H locs cells slots Q (F0 m pc ls (.int x :: .int i :: .ref a :: rest)) :=
  va_iast hexec hb hK hP hD hS q0 t0 ha ht hin hdg (fun H1 locs1 h1 h2 h3 => kk H1 locs1 _ rfl h1 h2 h3)
theorem kq_bast (hexec : p.tables.exec = Jvm.exec) (hb : c.code = cc) (hK : va_K D cl tys s) (hP : va_P D cl ws H) (hD : va_D A ws) (hS : va_S A H0 H locs) (q0 t0 : Nat) {cA : ClassId} {n : Nat} {f : Nat → Int32} (ha : ws[q0]? = some (a, .inl (cA, n, .inl f))) (ht : tys[t0]? = some (cA, .byte)) {i : Int32} {x : Int32} (hin : vp_in i n) (hdg : decode cc pc = .ok (.bastore, 1))
    (kk : ∀ (H1 : Heap) (locs1 : List Loc) (f1 : Nat → Int32), f1 = upd f i.toNatClampNeg (vp_nar .byte x) → va_P D cl (ws.set q0 (a, .inl (cA, n, .inl f1))) H1 → va_D A (ws.set q0 (a, .inl (cA, n, .inl f1))) → va_S A H0 H1 locs1 → W p l e R s m args below meth c H1 locs1 cells slots Q (F0 m (pc + 1) ls rest)) : W p l e R s m args below meth c H locs cells slots Q (F0 m pc ls (.int x :: .int i :: .ref a :: rest)) :=
  va_bast hexec hb hK hP hD hS q0 t0 ha ht hin hdg (fun H1 locs1 h1 h2 h3 => kk H1 locs1 _ rfl h1 h2 h3)
end KB
theorem gV {k0 : Cond} {own C : String} {idx : Nat} {y : MethodName} (w : Cond) (i1 i2 i3 i4 i5 : Nat) (h1 : wB[i1]? = some (.methodLink own idx y)) (h2 : wB[i2]? = some (.instanceMethod y)) (h3 : wB[i3]? = some (.selects C y y)) (h4 : wB[i4]? = some (.initialized C)) (h5 : wB[i5]? = some w) : GoodIn (k0 :: wP) (wsV own idx C y (w :: wP)) := by
  have hg : ∀ {i : Nat} {x : Cond}, wB[i]? = some x → x ∈ k0 :: wP ∧ _ := fun {i x} h => ⟨bP i h, good_of_word (wP_good _ (List.mem_append_left _ (List.mem_of_getElem? h)))⟩
  intro x hx
  rcases List.mem_append.mp hx with h | h
  · simp only [List.mem_cons, List.not_mem_nil, or_false] at h
    rcases h with e | e | e | e <;> subst e
    · exact hg h1
    · exact hg h2
    · exact hg h3
    · exact hg h4
  · exact gP w i5 h5 x h
theorem i_eq0 {x : Int32} (h1 : ¬ x < 0) (h2 : x ≤ 0) : x = 0 := by
  have a1 : ¬ x.toInt < (0 : Int32).toInt := fun h => h1 (Int32.lt_iff_toInt_lt.mpr h)
  have a2 := Int32.le_iff_toInt_le.mp h2
  have e : (0 : Int32).toInt = 0 := rfl
  rw [e] at a1 a2
  exact Int32.toInt_inj.mp (by rw [e]; omega)
theorem i5 {x : Int32} (h1 : ¬ x < 0) (h2 : x < 5) : x = 0 ∨ x = 1 ∨ x = 2 ∨ x = 3 ∨ x = 4 := by
  have a1 : ¬ x.toInt < (0 : Int32).toInt := fun h => h1 (Int32.lt_iff_toInt_lt.mpr h)
  have a2 := Int32.lt_iff_toInt_lt.mp h2
  have e : (0 : Int32).toInt = 0 := rfl
  have e5 : (5 : Int32).toInt = 5 := rfl
  rw [e] at a1
  rw [e5] at a2
  have : x.toInt = 0 ∨ x.toInt = 1 ∨ x.toInt = 2 ∨ x.toInt = 3 ∨ x.toInt = 4 := by omega
  rcases this with h | h | h | h | h
  · exact Or.inl (Int32.toInt_inj.mp h)
  · exact Or.inr (Or.inl (Int32.toInt_inj.mp h))
  · exact Or.inr (Or.inr (Or.inl (Int32.toInt_inj.mp h)))
  · exact Or.inr (Or.inr (Or.inr (Or.inl (Int32.toInt_inj.mp h))))
  · exact Or.inr (Or.inr (Or.inr (Or.inr (Int32.toInt_inj.mp h))))
/-- what the two sides answer on a fresh object -/
def bk (x : Int32) : Int32 := if x = 0 then 0 else -1
theorem bk1 {x : Int32} (h : x < 0) : (-1 : Int32) = bk x := (if_neg (fun e => by subst e; exact absurd h (by decide))).symm
theorem bk2 {x z : Int32} (h1 : ¬ x < 0) (h2 : x ≤ 0) (e : z = 0 - x) : z = bk x := by
  have := i_eq0 h1 h2
  subst this
  rw [e]
  rfl
theorem bk3 {x : Int32} (h : ¬ x ≤ 0) : (-1 : Int32) = bk x := (if_neg (fun e => by subst e; exact absurd (by decide) h)).symm
def cnt (x : Int32) : Int32 := if x < 0 ∨ 13 < x then -1 else 0
theorem cnt1 {x : Int32} (h : x < 0) : (-1 : Int32) = cnt x := (if_pos (Or.inl h)).symm
theorem cnt2 {x : Int32} (h : 13 < x) : (-1 : Int32) = cnt x := (if_pos (Or.inr h)).symm
theorem cnt3 {x : Int32} (h1 : ¬ x < 5) (h2 : ¬ 13 < x) : (0 : Int32) = cnt x := by
  refine (if_neg ?_).symm
  rintro (h | h)
  · exact h1 (Int32.lt_trans h (by decide))
  · exact h2 h
/-- which exception run(n) is, on a fresh object -/
def rc (x : Int32) : Int32 := if x < 0 ∨ 2000 < x then 1 else 2
theorem rc1 {x : Int32} (h : x < 0) : rc x = 1 := if_pos (Or.inl h)
theorem rc2 {x : Int32} (h : ¬ x ≤ 2000) : rc x = 1 := if_pos (Or.inr (Int32.not_le.mp h))
theorem rc3 {x : Int32} (h1 : ¬ x < 0) (h2 : x ≤ 2000) : rc x = 2 := if_neg (fun h => h.elim h1 (fun h => absurd h2 (Int32.not_le.mpr h)))
theorem k_lo {x : Int32} (h : x < 0) : x.toInt < (0 : Int) := Int32.lt_iff_toInt_lt.mp h
theorem k_hi {x : Int32} (h : 13 < x) : (13 : Int) < x.toInt := Int32.lt_iff_toInt_lt.mp h
section KC
variable {p : Program} {l : Launch} {e : Env} {R : Room} {s : State} {m : MethodId} {args : Array Value} {below : List Frame} {meth : Method} {c : Code} {H : Heap} {locs : List Loc} {cells slots : Nat} {Q : State → Prop}
variable {cc : ByteArray} {pc : Nat} {ls : Array Slot} {rest : List Value} {D : va_G} {cl : List vw_C} {A : Nat → Prop} {a : Nat} {tys : List (ClassId × FieldType)} {ws : va_W} {H0 : Heap}
theorem kq_putF {N0 : Nat} {L : List (Nat × Value)} (L2 : List (Nat × Value)) {fs : List Value} {ci : Nat} {C : String} {T : u_T} {N index : Nat} {Ts : List Cond} (hts : ∀ w ∈ Ts, w.before args s = true) (hin : ∀ w ∈ u_ws C T N, w ∈ Ts) (ty0 : Nat → FieldType) (hty : ∀ k, k < N → parseFieldDescriptor (T k).2.2.1 = some (ty0 k)) (hnm : ∀ a, a < N → ∀ b, b < N → a ≠ b → (T a).2.1 ≠ (T b).2.1)
    (hexec : p.tables.exec = Jvm.exec) (hb : c.code = cc) (hown : s.vm.findClass C = some m.cls) (hin2 : meth.name = "<init>") (hK : va_K D cl tys s) (hP : va_P D cl ws H) (hD : va_D A ws) (hS : va_S A H0 H locs) (q0 : Nat) (he : ws[q0]? = some (a, .inr (ci, fs))) (hc : cl[ci]? = some (C, T, N)) (hJ : kJ N0 L fs)
    (k : Nat) (hk : k < N) (hkl : k < N0) (hdecl : (T k).1 = C) (hlink : (Cond.fieldLink C index C (T k).2.1 (T k).2.2.1).before args s = true) (hfin : (T k).2.2.2 = true) {ty : FieldType} (hd : parseFieldDescriptor (T k).2.2.1 = some ty) {v : Value} (hn : narrow ty v = v) (hfit : fits ty v = true) (hdg2 : decode cc pc = .ok (.putfield index, 3)) (hJ2 : ∀ f, kJ N0 L f → kJ N0 L2 (f.set k v))
    (kk : ∀ (H1 : Heap) (locs1 : List Loc) (fs1 : List Value), kJ N0 L2 fs1 → va_P D cl (ws.set q0 (a, .inr (ci, fs1))) H1 → va_D A (ws.set q0 (a, .inr (ci, fs1))) → va_S A H0 H1 locs1 → W p l e R s m args below meth c H1 locs1 cells slots Q (F0 m (pc + 3) ls rest)) : W p l e R s m args below meth c H locs cells slots Q (F0 m pc ls (v :: .ref a :: rest)) := by
  refine va_putF (D := D) (ci := ci) (v := v) (ty := ty) (C := C) (T := T) (N := N) hexec hb hts hin ty0 hty hnm hown hK hP hD hS q0 he hc k hk hlink (fun _ h9 => by rw [hdecl] at h9; exact h9) hfin hin2 hdecl hd hn hfit (by rw [hJ.1]; exact hkl) hdg2 (fun H2 locs2 hP hD hS => ?_)
  exact kk H2 locs2 (fs.set k v) (hJ2 fs hJ) hP hD hS
end KC
theorem va_up_s {α : Type} {f : Nat → α} {k : Nat} {v : α} : va_up f k v k = v := by simp [va_up]
theorem va_up_n {α : Type} {f : Nat → α} {k j : Nat} {v : α} (h : j ≠ k) : va_up f k v j = f j := by simp [va_up, h]
theorem kq_aald {p : Program} {l : Launch} {e : Env} {R : Room} {s : State} {m : MethodId} {args : Array Value} {below : List Frame} {meth : Method} {c : Code} {H : Heap} {locs : List Loc} {cells slots : Nat} {Q : State → Prop} {cc : ByteArray} {pc : Nat} {ls : Array Slot} {rest : List Value} {D : va_G} {cl : List vw_C} {a : Nat} {tys : List (ClassId × FieldType)} {ws : va_W}
    (hexec : p.tables.exec = Jvm.exec) (hb : c.code = cc) (hK : va_K D cl tys s) (hP : va_P D cl ws H) (q0 t0 : Nat) {cA : ClassId} {C : String} {n v : Nat} {f : Nat → Option Nat} (ha : ws[q0]? = some (a, .inl (cA, n, .inr (.inr (.inr (.inr f)))))) (ht : tys[t0]? = some (cA, .object C)) {i : Int32} (hv : f i.toNatClampNeg = some v) (hin : vp_in i n) (hdg : decode cc pc = .ok (.aaload, 1))
    (kk : W p l e R s m args below meth c H locs cells slots Q (F0 m (pc + 1) ls (.ref v :: rest))) : W p l e R s m args below meth c H locs cells slots Q (F0 m pc ls (.int i :: .ref a :: rest)) :=
  va_aldq hexec hb hK hP q0 t0 ha ht hin hdg (by rw [hv]; exact kk)
end
section
/-! an exception that is there already is thrown; exceptions that are caught by name, in the first row or in the second -/
section KT
variable {p : Program} {l : Launch} {e : Env} {R : Room} {s : State} {m : MethodId} {args : Array Value} {below : List Frame} {meth : Method} {c : Code} {H : Heap} {locs : List Loc} {cells slots : Nat} {Q : State → Prop}
variable {cc : ByteArray} {pc : Nat} {ls : Array Slot} {rest : List Value}
theorem k_athrow (hexec : p.tables.exec = Jvm.exec) (hb : c.code = cc) {q : Nat} (hdg : decode cc pc = .ok (.athrow, 1)) (kk : vx_W p l e R s m args below meth c H locs cells slots Q (F0 m pc ls rest) q) : W p l e R s m args below meth c H locs cells slots Q (F0 m pc ls (.ref q :: rest)) := by
  intro T hT X
  obtain ⟨t, a1, b1⟩ := kk T hT X
  refine ⟨t, ?_, b1⟩
  jvm_step X.here [X.here.top, hexec, hb, hdg, athrow.wp_sem]
  exact a1
/-- the search for a handler in S ends at pc, the tables are vm' then -/
def kF (e : Env) (S : State) (f : JFrame) (a : Addr) (h : Handler) (vm' : Vm) : Prop := ∀ (Q : Handler → Pre) (E : CtlPost) (d : Bool) (acts : List Action), wp (findHandler f a) Q E e d acts S ↔ Q h d acts (S.setVm vm')
/-- one row whose class links: it takes the object, or the search goes on behind it -/
theorem kF_row {Q : Handler → Pre} {E : CtlPost} {d : Bool} {acts : List Action} {S : State} {f : JFrame} {a : Addr} {x : ExceptionTableEntry} {t : List ExceptionTableEntry} {k : ClassId} {cell : Cell} (hx : covers x f.pc = true) (h0 : x.catchType ≠ 0)
    (hl : S.vm.ClassLinks e.platform f.method.cls x.catchType k) (hcell : S.heap[a]? = some cell) (hobj : ∀ z, cell.vm ≠ .statics z) (hk : ∃ z, S.vm.classes[cell.cls]? = some z) (hc : ∃ z, S.vm.classes[k]? = some z) :
    wp (findHandler.go f a (x :: t)) Q E e d acts S ↔ if S.vm.assignable cell.cls k = true then Q (.found x.handlerPc) d acts (S.setVm (S.vm.noted f.method.cls x.catchType (.cls k))) else wp (findHandler.go f a t) Q E e d acts (S.setVm (S.vm.noted f.method.cls x.catchType (.cls k))) := by
  simp only [covers] at hx
  obtain ⟨ha, ht⟩ := (resolveClass_links e.toSetting hl).op (op := VmOp.resolveClass f.method.cls x.catchType) rfl
  have hal : S.vm.Alike (S.vm.noted f.method.cls x.catchType (.cls k)) := (Vm.Alike.refl S.vm).noted _ _ _
  obtain ⟨z1, hz1⟩ := hk
  obtain ⟨z2, hz2⟩ := hc
  obtain ⟨y1, hy1, -⟩ := hal.2.2 _ _ hz1
  obtain ⟨y2, hy2, -⟩ := hal.2.2 _ _ hz2
  have has := hal.assignable cell.cls k
  cases hb : S.vm.assignable cell.cls k
  · rw [hb] at has
    simp [findHandler.go, hx, h0, ha, ht, hcell, hobj, hy1, hy2, has, VmOp.dirties, VmOp.acts]
  · rw [hb] at has
    simp [findHandler.go, hx, h0, ha, ht, hcell, hobj, hy1, hy2, has, VmOp.dirties, VmOp.acts]
theorem kF_step {S : State} {a : Addr} {f : JFrame} {r : List Frame} {pc : Nat} {vm' : Vm} (hfind : kF e S f a (.found pc) vm') : (stepThrowing e S a (.java f :: r)).Is ((S.setVm vm').setFrames (.java { f with pc := pc, stack := [.ref a] } :: r)) [] := by
  simp only [stepThrowing, searchFrame, vmDo]
  generalize hr : Sem.go _ e false [] S = res
  obtain ⟨as, rfl, ha⟩ := Sem.eq_ok_of hr (a := Handler.found pc) (s' := S.setVm vm') (acts' := []) (by simp [hfind _ _ _ _])
  exact ⟨rfl, ha⟩
theorem kF_set (u : State) (vm' : Vm) (F G : List Frame) : ((u.setFrames F).setVm vm').setFrames G = (u.setVm vm').setFrames G := by
  rw [show (u.setFrames F).setVm vm' = (u.setVm vm').setFrames F from rfl, State.setFrames_setFrames]
theorem kF_steps {tb : Tables} {S target : State} {g : JFrame} {a : Addr} (h : At S g.method c below) {pc : Nat} {vm' : Vm} (hfind : kF e ((S.setTop g).pushFrame (.throwing a)) g a (.found pc) vm') (hrest : Steps tb e below ((S.setVm vm').setTop { g with pc := pc, stack := [.ref a] }) target) :
    Steps tb e below ((S.setTop g).pushFrame (.throwing a)) target := by
  obtain ⟨hgo, hw⟩ := h.throwing a
  refine Steps.head hgo hw ?_
  rw [stepThread_throwing (frames_entered h.top _), (kF_step (S := (S.setTop g).pushFrame (.throwing a)) hfind).1]
  obtain ⟨g₀, hg⟩ := Option.isSome_iff_exists.mp h.top
  obtain ⟨r, hr⟩ := State.topJava?_eq_some.mp hg
  have hr' : (S.setVm vm').frames = .java g₀ :: r := hr
  rw [State.setTop_of_frames _ hr'] at hrest
  rw [hr, List.tail_cons, State.pushFrame, kF_set, State.setTop_of_frames _ hr, kF_set]
  exact hrest
/-- a class that an entry of this class links to, in a later state -/
theorem kF_link {T : State} (X : Stand p l e R s m args below meth c T locs cells slots) {own name : String} (hown : s.vm.findClass own = some m.cls) {i : Nat} (hlink : (Cond.classLink own i name).before args s = true) {k : ClassId} (hk : s.vm.findClass name = some k) {vm1 : Vm} (hW : s.WarmedH vm1) :
    vm1.ClassLinks e.platform m.cls i k ∧ (∃ z, vm1.classes[k]? = some z) ∧ s.WarmedH (vm1.noted m.cls i (.cls k)) := by
  have hpl : e.platform.magicAccessors = ({} : Platform).magicAccessors := by rw [X.admits.platform]
  obtain ⟨c5, hc5, hcl5⟩ := Cond.classLink_spec hown hlink e.platform hpl
  cases Option.some.inj (hk.symm.trans hc5)
  obtain ⟨dk, _, _, kt, hd, _, _, _, _, hkt, _, hopen⟩ := hcl5.here
  obtain ⟨kt', hkt', -⟩ := hW.alike.2.2 _ _ hkt
  exact ⟨hW.classLinks hcl5, ⟨kt', hkt'⟩, hW.noted hd hopen (State.rightAt_cls hcl5)⟩
/-- caught by the first row -/
theorem k_catchA {own name : String} {E : String} {ce : Cell} {q : Addr} (hown : s.vm.findClass own = some m.cls) (x : ExceptionTableEntry) (suf : List ExceptionTableEntry) (hsplit : c.exceptionTable.toList = x :: suf) (hx : covers x pc = true) (h0 : x.catchType ≠ 0)
    (hlink : (Cond.classLink own x.catchType name).before args s = true) (hcast : (Cond.castable E name).before args s = true) (hcell : H[q]? = some ce) (hv : ce.vm = .none) (hcl : s.vm.findClass E = some ce.cls)
    (kk : W p l e R s m args below meth c H locs cells slots Q (F0 m x.handlerPc ls [.ref q])) : vx_W p l e R s m args below meth c H locs cells slots Q (F0 m pc ls rest) q := by
  intro T hT X
  obtain ⟨c3, c4, hc3, hc4, hasg⟩ := Cond.castable_spec hcast
  cases Option.some.inj (hc3.symm.trans hcl)
  obtain ⟨h1, h2, h3⟩ := kF_link X hown hlink hc4 X.warmed
  obtain ⟨k9, h9, -⟩ := Vm.findClass_spec hcl
  obtain ⟨k8, h8, -⟩ := X.warmed.alike.2.2 _ _ h9
  have hf : kF e ((T.setTop (F0 m pc ls rest)).pushFrame (.throwing q)) (F0 m pc ls rest) q (.found x.handlerPc) (T.vm.noted m.cls x.catchType (.cls c4)) := by
    intro Q1 E1 d acts
    rw [W.findHandler_eq (meth := meth) (code := c) X.method' X.code, hsplit]
    refine (kF_row (e := e) (S := (T.setTop (F0 m pc ls rest)).pushFrame (.throwing q)) (f := F0 m pc ls rest) (a := q) (k := c4) (cell := ce) hx h0 h1 (by show T.heap[q]? = some ce; rw [hT]; exact hcell) (by intro z; rw [hv]; intro h; cases h) ⟨k8, h8⟩ h2).trans ?_
    rw [if_pos (by show T.vm.assignable ce.cls c4 = true; rw [X.warmed.alike.assignable]; exact hasg)]
    exact Iff.rfl
  obtain ⟨t, a1, b1⟩ := kk (T.setVm (T.vm.noted m.cls x.catchType (.cls c4))) hT (X.noted h3)
  exact ⟨t, kF_steps X.here hf a1, b1⟩
/-- caught by the second row: the first one names a class that doesn't take it -/
theorem k_catchB {own name name1 : String} {E : String} {ce : Cell} {q : Addr} (hown : s.vm.findClass own = some m.cls) (y x : ExceptionTableEntry) (suf : List ExceptionTableEntry) (hsplit : c.exceptionTable.toList = y :: x :: suf) (hy : covers y pc = true) (hy0 : y.catchType ≠ 0) (hylink : (Cond.classLink own y.catchType name1).before args s = true)
    (hno : ∀ c1 c2, s.vm.findClass E = some c1 → s.vm.findClass name1 = some c2 → s.vm.assignable c1 c2 = false) {k1 : ClassId} (hk1 : s.vm.findClass name1 = some k1) (hx : covers x pc = true) (h0 : x.catchType ≠ 0)
    (hlink : (Cond.classLink own x.catchType name).before args s = true) (hcast : (Cond.castable E name).before args s = true) (hcell : H[q]? = some ce) (hv : ce.vm = .none) (hcl : s.vm.findClass E = some ce.cls)
    (kk : W p l e R s m args below meth c H locs cells slots Q (F0 m x.handlerPc ls [.ref q])) : vx_W p l e R s m args below meth c H locs cells slots Q (F0 m pc ls rest) q := by
  intro T hT X
  obtain ⟨c3, c4, hc3, hc4, hasg⟩ := Cond.castable_spec hcast
  cases Option.some.inj (hc3.symm.trans hcl)
  obtain ⟨g1, g2, g3⟩ := kF_link X hown hylink hk1 X.warmed
  obtain ⟨h1, h2, h3⟩ := kF_link X hown hlink hc4 g3
  obtain ⟨k9, h9, -⟩ := Vm.findClass_spec hcl
  obtain ⟨k8, h8, -⟩ := X.warmed.alike.2.2 _ _ h9
  obtain ⟨k7, h7, -⟩ := g3.alike.2.2 _ _ h9
  have hf : kF e ((T.setTop (F0 m pc ls rest)).pushFrame (.throwing q)) (F0 m pc ls rest) q (.found x.handlerPc) ((T.vm.noted m.cls y.catchType (.cls k1)).noted m.cls x.catchType (.cls c4)) := by
    intro Q1 E1 d acts
    rw [W.findHandler_eq (meth := meth) (code := c) X.method' X.code, hsplit]
    refine (kF_row (e := e) (S := (T.setTop (F0 m pc ls rest)).pushFrame (.throwing q)) (f := F0 m pc ls rest) (a := q) (k := k1) (cell := ce) hy hy0 g1 (by show T.heap[q]? = some ce; rw [hT]; exact hcell) (by intro z; rw [hv]; intro h; cases h) ⟨k8, h8⟩ g2).trans ?_
    rw [if_neg (by show ¬ T.vm.assignable ce.cls k1 = true; rw [X.warmed.alike.assignable, hno _ _ hcl hk1]; decide)]
    refine (kF_row (e := e) (S := ((T.setTop (F0 m pc ls rest)).pushFrame (.throwing q)).setVm (T.vm.noted m.cls y.catchType (.cls k1))) (f := F0 m pc ls rest) (a := q) (k := c4) (cell := ce) hx h0 h1 (by show T.heap[q]? = some ce; rw [hT]; exact hcell) (by intro z; rw [hv]; intro h; cases h) ⟨k7, h7⟩ h2).trans ?_
    rw [if_pos (by show (T.vm.noted m.cls y.catchType (.cls k1)).assignable ce.cls c4 = true; rw [g3.alike.assignable]; exact hasg)]
    exact Iff.rfl
  obtain ⟨t, a1, b1⟩ := kk (T.setVm ((T.vm.noted m.cls y.catchType (.cls k1)).noted m.cls x.catchType (.cls c4))) hT (X.noted h3)
  exact ⟨t, kF_steps X.here hf a1, b1⟩
end KT
end
section
/-! The class on a fresh object -/
theorem dX3_press_0 : decode cX3_press 0 = .ok (.aload_n 0, 1) := by decide +kernel
theorem dX3_press_1 : decode cX3_press 1 = .ok (.getfield 78, 3) := by decide +kernel
theorem dX3_press_4 : decode cX3_press 4 = .ok (.ifCond .eq 14, 3) := by decide +kernel
theorem dX3_press_18 : decode cX3_press 18 = .ok (.iconst 0, 1) := by decide +kernel
theorem dX3_press_19 : decode cX3_press 19 = .ok (.ireturn, 1) := by decide +kernel
theorem dX3_tally_0 : decode cX3_tally 0 = .ok (.aload_n 0, 1) := by decide +kernel
theorem dX3_tally_1 : decode cX3_tally 1 = .ok (.getfield 78, 3) := by decide +kernel
theorem dX3_tally_4 : decode cX3_tally 4 = .ok (.ifCond .ne 5, 3) := by decide +kernel
theorem dX3_tally_7 : decode cX3_tally 7 = .ok (.iconst 0, 1) := by decide +kernel
theorem dX3_tally_8 : decode cX3_tally 8 = .ok (.ireturn, 1) := by decide +kernel
theorem dX3_shown_0 : decode cX3_shown 0 = .ok (.aload_n 0, 1) := by decide +kernel
theorem dX3_shown_1 : decode cX3_shown 1 = .ok (.getfield 78, 3) := by decide +kernel
theorem dX3_shown_4 : decode cX3_shown 4 = .ok (.ifCond .eq 14, 3) := by decide +kernel
theorem dX3_shown_18 : decode cX3_shown 18 = .ok (.iconst (-1), 1) := by decide +kernel
theorem dX3_shown_19 : decode cX3_shown 19 = .ok (.ireturn, 1) := by decide +kernel
theorem dX3_tellMeeting_0 : decode cX3_tellMeeting 0 = .ok (.aload_n 0, 1) := by decide +kernel
theorem dX3_tellMeeting_1 : decode cX3_tellMeeting 1 = .ok (.getfield 78, 3) := by decide +kernel
theorem dX3_tellMeeting_4 : decode cX3_tellMeeting 4 = .ok (.ifCond .eq 15, 3) := by decide +kernel
theorem dX3_tellMeeting_19 : decode cX3_tellMeeting 19 = .ok (.iconst (-1), 1) := by decide +kernel
theorem dX3_tellMeeting_20 : decode cX3_tellMeeting 20 = .ok (.ireturn, 1) := by decide +kernel
theorem dX3_tellProcess_0 : decode cX3_tellProcess 0 = .ok (.aload_n 0, 1) := by decide +kernel
theorem dX3_tellProcess_1 : decode cX3_tellProcess 1 = .ok (.getfield 78, 3) := by decide +kernel
theorem dX3_tellProcess_4 : decode cX3_tellProcess 4 = .ok (.ifCond .eq 14, 3) := by decide +kernel
theorem dX3_tellProcess_18 : decode cX3_tellProcess 18 = .ok (.aconst_null, 1) := by decide +kernel
theorem dX3_tellProcess_19 : decode cX3_tellProcess 19 = .ok (.astore_n 3, 1) := by decide +kernel
theorem dX3_tellProcess_20 : decode cX3_tellProcess 20 = .ok (.aload_n 3, 1) := by decide +kernel
theorem dX3_tellProcess_21 : decode cX3_tellProcess 21 = .ok (.ifnonnull 5, 3) := by decide +kernel
theorem dX3_tellProcess_24 : decode cX3_tellProcess 24 = .ok (.iconst (-1), 1) := by decide +kernel
theorem dX3_tellProcess_25 : decode cX3_tellProcess 25 = .ok (.ireturn, 1) := by decide +kernel
theorem dX3_tellCell_0 : decode cX3_tellCell 0 = .ok (.aload_n 0, 1) := by decide +kernel
theorem dX3_tellCell_1 : decode cX3_tellCell 1 = .ok (.getfield 78, 3) := by decide +kernel
theorem dX3_tellCell_4 : decode cX3_tellCell 4 = .ok (.ifCond .eq 7, 3) := by decide +kernel
theorem dX3_tellCell_11 : decode cX3_tellCell 11 = .ok (.iconst 0, 1) := by decide +kernel
theorem dX3_tellCell_12 : decode cX3_tellCell 12 = .ok (.ireturn, 1) := by decide +kernel
theorem dX7_append_0 : decode cX7_append 0 = .ok (.bipush 24, 2) := by decide +kernel
theorem dX7_append_2 : decode cX7_append 2 = .ok (.istore_n 2, 1) := by decide +kernel
theorem dX7_append_3 : decode cX7_append 3 = .ok (.iload_n 2, 1) := by decide +kernel
theorem dX7_append_4 : decode cX7_append 4 = .ok (.ifCond .lt 42, 3) := by decide +kernel
theorem dX7_append_7 : decode cX7_append 7 = .ok (.aload_n 0, 1) := by decide +kernel
theorem dX7_append_8 : decode cX7_append 8 = .ok (.getfield 43, 3) := by decide +kernel
theorem dX7_append_11 : decode cX7_append 11 = .ok (.sipush 6000, 3) := by decide +kernel
theorem dX7_append_14 : decode cX7_append 14 = .ok (.if_icmp .ge 26, 3) := by decide +kernel
theorem dX7_append_17 : decode cX7_append 17 = .ok (.aload_n 0, 1) := by decide +kernel
theorem dX7_append_18 : decode cX7_append 18 = .ok (.getfield 9, 3) := by decide +kernel
theorem dX7_append_21 : decode cX7_append 21 = .ok (.aload_n 0, 1) := by decide +kernel
theorem dX7_append_22 : decode cX7_append 22 = .ok (.getfield 43, 3) := by decide +kernel
theorem dX7_append_25 : decode cX7_append 25 = .ok (.iload_n 1, 1) := by decide +kernel
theorem dX7_append_26 : decode cX7_append 26 = .ok (.iload_n 2, 1) := by decide +kernel
theorem dX7_append_27 : decode cX7_append 27 = .ok (.iushr, 1) := by decide +kernel
theorem dX7_append_28 : decode cX7_append 28 = .ok (.i2b, 1) := by decide +kernel
theorem dX7_append_29 : decode cX7_append 29 = .ok (.bastore, 1) := by decide +kernel
theorem dX7_append_30 : decode cX7_append 30 = .ok (.aload_n 0, 1) := by decide +kernel
theorem dX7_append_31 : decode cX7_append 31 = .ok (.dup, 1) := by decide +kernel
theorem dX7_append_32 : decode cX7_append 32 = .ok (.getfield 43, 3) := by decide +kernel
theorem dX7_append_35 : decode cX7_append 35 = .ok (.iconst 1, 1) := by decide +kernel
theorem dX7_append_36 : decode cX7_append 36 = .ok (.iadd, 1) := by decide +kernel
theorem dX7_append_37 : decode cX7_append 37 = .ok (.putfield 43, 3) := by decide +kernel
theorem dX7_append_40 : decode cX7_append 40 = .ok (.iinc 2 (-8), 3) := by decide +kernel
theorem dX7_append_43 : decode cX7_append 43 = .ok (.goto (-40), 3) := by decide +kernel
theorem dX7_append_46 : decode cX7_append 46 = .ok (.return_, 1) := by decide +kernel
theorem dX11_feed_0 : decode cX11_feed 0 = .ok (.aload_n 0, 1) := by decide +kernel
theorem dX11_feed_1 : decode cX11_feed 1 = .ok (.getfield 12, 3) := by decide +kernel
theorem dX11_feed_4 : decode cX11_feed 4 = .ok (.getfield 79, 3) := by decide +kernel
theorem dX11_feed_7 : decode cX11_feed 7 = .ok (.bipush 20, 2) := by decide +kernel
theorem dX11_feed_9 : decode cX11_feed 9 = .ok (.iadd, 1) := by decide +kernel
theorem dX11_feed_10 : decode cX11_feed 10 = .ok (.sipush 6000, 3) := by decide +kernel
theorem dX11_feed_13 : decode cX11_feed 13 = .ok (.if_icmp .le 5, 3) := by decide +kernel
theorem dX11_feed_18 : decode cX11_feed 18 = .ok (.aload_n 0, 1) := by decide +kernel
theorem dX11_feed_19 : decode cX11_feed 19 = .ok (.getfield 12, 3) := by decide +kernel
theorem dX11_feed_22 : decode cX11_feed 22 = .ok (.iload_n 1, 1) := by decide +kernel
theorem dX11_feed_23 : decode cX11_feed 23 = .ok (.invokevirtual 83, 3) := by decide +kernel
theorem dX11_feed_26 : decode cX11_feed 26 = .ok (.aload_n 0, 1) := by decide +kernel
theorem dX11_feed_27 : decode cX11_feed 27 = .ok (.getfield 12, 3) := by decide +kernel
theorem dX11_feed_30 : decode cX11_feed 30 = .ok (.iload_n 2, 1) := by decide +kernel
theorem dX11_feed_31 : decode cX11_feed 31 = .ok (.invokevirtual 83, 3) := by decide +kernel
theorem dX11_feed_34 : decode cX11_feed 34 = .ok (.aload_n 0, 1) := by decide +kernel
theorem dX11_feed_35 : decode cX11_feed 35 = .ok (.getfield 12, 3) := by decide +kernel
theorem dX11_feed_38 : decode cX11_feed 38 = .ok (.iload_n 3, 1) := by decide +kernel
theorem dX11_feed_39 : decode cX11_feed 39 = .ok (.invokevirtual 83, 3) := by decide +kernel
theorem dX11_feed_42 : decode cX11_feed 42 = .ok (.aload_n 0, 1) := by decide +kernel
theorem dX11_feed_43 : decode cX11_feed 43 = .ok (.getfield 12, 3) := by decide +kernel
theorem dX11_feed_46 : decode cX11_feed 46 = .ok (.iload 4, 2) := by decide +kernel
theorem dX11_feed_48 : decode cX11_feed 48 = .ok (.invokevirtual 83, 3) := by decide +kernel
theorem dX11_feed_51 : decode cX11_feed 51 = .ok (.aload_n 0, 1) := by decide +kernel
theorem dX11_feed_52 : decode cX11_feed 52 = .ok (.getfield 12, 3) := by decide +kernel
theorem dX11_feed_55 : decode cX11_feed 55 = .ok (.iload 5, 2) := by decide +kernel
theorem dX11_feed_57 : decode cX11_feed 57 = .ok (.invokevirtual 83, 3) := by decide +kernel
theorem dX11_feed_60 : decode cX11_feed 60 = .ok (.aload_n 0, 1) := by decide +kernel
theorem dX11_feed_61 : decode cX11_feed 61 = .ok (.getfield 12, 3) := by decide +kernel
theorem dX11_feed_64 : decode cX11_feed 64 = .ok (.getfield 79, 3) := by decide +kernel
theorem dX11_feed_67 : decode cX11_feed 67 = .ok (.ireturn, 1) := by decide +kernel
theorem dX11_back_0 : decode cX11_back 0 = .ok (.iload_n 1, 1) := by decide +kernel
theorem dX11_back_1 : decode cX11_back 1 = .ok (.ifCond .lt 14, 3) := by decide +kernel
theorem dX11_back_4 : decode cX11_back 4 = .ok (.iload_n 1, 1) := by decide +kernel
theorem dX11_back_5 : decode cX11_back 5 = .ok (.aload_n 0, 1) := by decide +kernel
theorem dX11_back_6 : decode cX11_back 6 = .ok (.getfield 12, 3) := by decide +kernel
theorem dX11_back_9 : decode cX11_back 9 = .ok (.getfield 79, 3) := by decide +kernel
theorem dX11_back_12 : decode cX11_back 12 = .ok (.if_icmp .le 5, 3) := by decide +kernel
theorem dX11_back_15 : decode cX11_back 15 = .ok (.iconst (-1), 1) := by decide +kernel
theorem dX11_back_16 : decode cX11_back 16 = .ok (.ireturn, 1) := by decide +kernel
theorem dX11_back_17 : decode cX11_back 17 = .ok (.aload_n 0, 1) := by decide +kernel
theorem dX11_back_18 : decode cX11_back 18 = .ok (.getfield 12, 3) := by decide +kernel
theorem dX11_back_21 : decode cX11_back 21 = .ok (.dup, 1) := by decide +kernel
theorem dX11_back_22 : decode cX11_back 22 = .ok (.getfield 79, 3) := by decide +kernel
theorem dX11_back_25 : decode cX11_back 25 = .ok (.iload_n 1, 1) := by decide +kernel
theorem dX11_back_26 : decode cX11_back 26 = .ok (.isub, 1) := by decide +kernel
theorem dX11_back_27 : decode cX11_back 27 = .ok (.putfield 79, 3) := by decide +kernel
theorem dX11_back_30 : decode cX11_back 30 = .ok (.aload_n 0, 1) := by decide +kernel
theorem dX11_back_31 : decode cX11_back 31 = .ok (.getfield 12, 3) := by decide +kernel
theorem dX11_back_34 : decode cX11_back 34 = .ok (.getfield 79, 3) := by decide +kernel
theorem dX11_back_37 : decode cX11_back 37 = .ok (.ireturn, 1) := by decide +kernel
theorem dX11_count_0 : decode cX11_count 0 = .ok (.iload_n 1, 1) := by decide +kernel
theorem dX11_count_1 : decode cX11_count 1 = .ok (.ifCond .lt 9, 3) := by decide +kernel
theorem dX11_count_4 : decode cX11_count 4 = .ok (.iload_n 1, 1) := by decide +kernel
theorem dX11_count_5 : decode cX11_count 5 = .ok (.bipush 13, 2) := by decide +kernel
theorem dX11_count_7 : decode cX11_count 7 = .ok (.if_icmp .le 5, 3) := by decide +kernel
theorem dX11_count_10 : decode cX11_count 10 = .ok (.iconst (-1), 1) := by decide +kernel
theorem dX11_count_11 : decode cX11_count 11 = .ok (.ireturn, 1) := by decide +kernel
theorem dX11_count_12 : decode cX11_count 12 = .ok (.iload_n 1, 1) := by decide +kernel
theorem dX11_count_13 : decode cX11_count 13 = .ok (.iconst 3, 1) := by decide +kernel
theorem dX11_count_14 : decode cX11_count 14 = .ok (.if_icmp .ne 11, 3) := by decide +kernel
theorem dX11_count_17 : decode cX11_count 17 = .ok (.aload_n 0, 1) := by decide +kernel
theorem dX11_count_18 : decode cX11_count 18 = .ok (.getfield 12, 3) := by decide +kernel
theorem dX11_count_21 : decode cX11_count 21 = .ok (.getfield 79, 3) := by decide +kernel
theorem dX11_count_24 : decode cX11_count 24 = .ok (.ireturn, 1) := by decide +kernel
theorem dX11_count_25 : decode cX11_count 25 = .ok (.iload_n 1, 1) := by decide +kernel
theorem dX11_count_26 : decode cX11_count 26 = .ok (.iconst 3, 1) := by decide +kernel
theorem dX11_count_27 : decode cX11_count 27 = .ok (.if_icmp .le 12, 3) := by decide +kernel
theorem dX11_count_30 : decode cX11_count 30 = .ok (.aload_n 0, 1) := by decide +kernel
theorem dX11_count_31 : decode cX11_count 31 = .ok (.getfield 71, 3) := by decide +kernel
theorem dX11_count_34 : decode cX11_count 34 = .ok (.iload_n 1, 1) := by decide +kernel
theorem dX11_count_35 : decode cX11_count 35 = .ok (.invokevirtual 115, 3) := by decide +kernel
theorem dX11_count_38 : decode cX11_count 38 = .ok (.ireturn, 1) := by decide +kernel
theorem dX11_count_39 : decode cX11_count 39 = .ok (.aload_n 0, 1) := by decide +kernel
theorem dX11_count_40 : decode cX11_count 40 = .ok (.getfield 75, 3) := by decide +kernel
theorem dX11_count_43 : decode cX11_count 43 = .ok (.ifCond .ne 5, 3) := by decide +kernel
theorem dX11_count_46 : decode cX11_count 46 = .ok (.iconst 0, 1) := by decide +kernel
theorem dX11_count_47 : decode cX11_count 47 = .ok (.ireturn, 1) := by decide +kernel
theorem dX11_key_0 : decode cX11_key 0 = .ok (.aload_n 0, 1) := by decide +kernel
theorem dX11_key_1 : decode cX11_key 1 = .ok (.getfield 71, 3) := by decide +kernel
theorem dX11_key_4 : decode cX11_key 4 = .ok (.iload_n 1, 1) := by decide +kernel
theorem dX11_key_5 : decode cX11_key 5 = .ok (.sipush 255, 3) := by decide +kernel
theorem dX11_key_8 : decode cX11_key 8 = .ok (.iand, 1) := by decide +kernel
theorem dX11_key_9 : decode cX11_key 9 = .ok (.invokevirtual 149, 3) := by decide +kernel
theorem dX11_key_12 : decode cX11_key 12 = .ok (.ireturn, 1) := by decide +kernel
theorem dX11_output_0 : decode cX11_output 0 = .ok (.aload_n 0, 1) := by decide +kernel
theorem dX11_output_1 : decode cX11_output 1 = .ok (.getfield 71, 3) := by decide +kernel
theorem dX11_output_4 : decode cX11_output 4 = .ok (.iload_n 1, 1) := by decide +kernel
theorem dX11_output_5 : decode cX11_output 5 = .ok (.invokevirtual 153, 3) := by decide +kernel
theorem dX11_output_8 : decode cX11_output 8 = .ok (.ireturn, 1) := by decide +kernel
theorem dX11_process_0 : decode cX11_process 0 = .ok (.aload_n 0, 1) := by decide +kernel
theorem dX11_process_1 : decode cX11_process 1 = .ok (.getfield 71, 3) := by decide +kernel
theorem dX11_process_4 : decode cX11_process 4 = .ok (.iload_n 1, 1) := by decide +kernel
theorem dX11_process_5 : decode cX11_process 5 = .ok (.iload_n 2, 1) := by decide +kernel
theorem dX11_process_6 : decode cX11_process 6 = .ok (.invokevirtual 156, 3) := by decide +kernel
theorem dX11_process_9 : decode cX11_process 9 = .ok (.ireturn, 1) := by decide +kernel
theorem dX11_cell_0 : decode cX11_cell 0 = .ok (.aload_n 0, 1) := by decide +kernel
theorem dX11_cell_1 : decode cX11_cell 1 = .ok (.getfield 71, 3) := by decide +kernel
theorem dX11_cell_4 : decode cX11_cell 4 = .ok (.iload_n 1, 1) := by decide +kernel
theorem dX11_cell_5 : decode cX11_cell 5 = .ok (.invokevirtual 160, 3) := by decide +kernel
theorem dX11_cell_8 : decode cX11_cell 8 = .ok (.ireturn, 1) := by decide +kernel
theorem dX11_meeting_0 : decode cX11_meeting 0 = .ok (.aload_n 0, 1) := by decide +kernel
theorem dX11_meeting_1 : decode cX11_meeting 1 = .ok (.getfield 71, 3) := by decide +kernel
theorem dX11_meeting_4 : decode cX11_meeting 4 = .ok (.iload_n 1, 1) := by decide +kernel
theorem dX11_meeting_5 : decode cX11_meeting 5 = .ok (.iload_n 2, 1) := by decide +kernel
theorem dX11_meeting_6 : decode cX11_meeting 6 = .ok (.invokevirtual 163, 3) := by decide +kernel
theorem dX11_meeting_9 : decode cX11_meeting 9 = .ok (.ireturn, 1) := by decide +kernel
theorem dX11_clashes_0 : decode cX11_clashes 0 = .ok (.iconst 0, 1) := by decide +kernel
theorem dX11_clashes_1 : decode cX11_clashes 1 = .ok (.ireturn, 1) := by decide +kernel
set_option maxHeartbeats 4000000 in
set_option maxRecDepth 100000 in
/-- c_Machine_press -/
theorem c_Machine_press (l : Launch) (dC : Nat → ClassId) (dI : Nat → Nat → Nat) (h0 sz : Nat) (fm : List Value) (a1 : Int32) : Met l yX3_press (.code yX3_press cX3_press 3 (some .boolean) :: wP) ({ frames := 0, cells := 0, slots := 0, locals := 0 }) (va_Pc [.ref h0, .int a1] (fun U => U.heap.size = sz ∧ kJ 21 [(0, .int 0)] fm ∧ va_P (dC, dI) vwCl [(h0, .inr (3, fm))] U.heap ∧ va_K (dC, dI) vwCl [] U ∧ va_D (fun _ => True) [(h0, .inr (3, fm))])) (va_Qi (fun r (_ : Unit) => r = 0) (fun (_ : Unit) (_ : State) => True) (va_A [(h0, .inr (3, fm))] sz)) 0 0 (va_A [(h0, .inr (3, fm))] sz) := by
  refine Met.ofW (cc := cX3_press) (maxL := 3) (ret := (some .boolean)) (by decide) rfl ?_
  intro p e s m args below meth c s₁ B hml hv
  obtain ⟨rfl, hsz, hM, hP, hK, hD0⟩ := hv
  have hx := B.exec
  have hb := B.bytes
  have hr := B.returns
  have hts := atoms_spec (ws := .code yX3_press cX3_press 3 (some .boolean) :: wP) B.pre
  have hown : s.vm.findClass RX3 = some m.cls := findClass_of_methodNamed B.named
  subst hsz
  have hD := hD0.self (sz := s.heap.size)
  generalize hAe : va_A [(h0, .inr (3, fm))] s.heap.size = A at hD ⊢
  have hA : ∀ q : Nat, s.heap.size ≤ q → A q := fun q h => by rw [← hAe]; exact Or.inr h
  have hS : va_S A s.heap s.heap [] := va_S.rf
  have hl := lv_entry ([.ref h0, .int a1]) (n := 3) (Nat.le_of_ble_eq_true rfl)
  rw [lg_entry_eq]
  generalize (lg_sl ([.ref h0, .int a1]) ++ List.replicate (3 - (lg_sl ([.ref h0, .int a1])).length) Slot.unset).toArray = ls at hl ⊢
  obtain ⟨H, hHe⟩ : ∃ H, H = s.heap := ⟨_, rfl⟩
  rw [← hHe] at hP ⊢
  have hS : va_S A s.heap H [] := by rw [hHe]; exact hS
  have hl : lv_has ls 3 [(0, .ref h0), (1, .int a1)] := hl
  refine lv_aload_n hx hb dX3_press_0 rfl (lv_at hl 0 rfl) ?_
  refine va_get (D := (dC, dI)) (ci := 3) (v := .int 0) (C := RX3) (T := TX3) (N := 21) hx hb hts iX3 hown hK hP 0 rfl rfl 0 (by decide) (hts _ (bP 390 rfl)) (fun _ h9 => h9) (kJ_at hM 0 rfl) dX3_press_1 ?_
  refine lv_if_eq (tgt := 18) hx hb dX3_press_4 (by decide) (fun _ => ?_) (fun h => absurd h (by decide))
  refine lv_iconst (v := 0) hx hb dX3_press_18 (by decide) ?_
  exact W.zret (v := 0) hx hb hr (by first | decide | (rw [hw]; decide)) (fun t ht hW => ⟨⟨0, (), rfl, rfl, trivial⟩, hS.F ht⟩) hS.2.2 dX3_press_19
set_option maxHeartbeats 4000000 in
set_option maxRecDepth 100000 in
/-- c_Machine_shown -/
theorem c_Machine_shown (l : Launch) (dC : Nat → ClassId) (dI : Nat → Nat → Nat) (h0 sz : Nat) (fm : List Value) (a1 : Int32) : Met l yX3_shown (.code yX3_shown cX3_shown 2 (some .int) :: wP) ({ frames := 0, cells := 0, slots := 0, locals := 0 }) (va_Pc [.ref h0, .int a1] (fun U => U.heap.size = sz ∧ kJ 21 [(0, .int 0)] fm ∧ va_P (dC, dI) vwCl [(h0, .inr (3, fm))] U.heap ∧ va_K (dC, dI) vwCl [] U ∧ va_D (fun _ => True) [(h0, .inr (3, fm))])) (va_Qi (fun r (_ : Unit) => r = -1) (fun (_ : Unit) (_ : State) => True) (va_A [(h0, .inr (3, fm))] sz)) 0 0 (va_A [(h0, .inr (3, fm))] sz) := by
  refine Met.ofW (cc := cX3_shown) (maxL := 2) (ret := (some .int)) (by decide) rfl ?_
  intro p e s m args below meth c s₁ B hml hv
  obtain ⟨rfl, hsz, hM, hP, hK, hD0⟩ := hv
  have hx := B.exec
  have hb := B.bytes
  have hr := B.returns
  have hts := atoms_spec (ws := .code yX3_shown cX3_shown 2 (some .int) :: wP) B.pre
  have hown : s.vm.findClass RX3 = some m.cls := findClass_of_methodNamed B.named
  subst hsz
  have hD := hD0.self (sz := s.heap.size)
  generalize hAe : va_A [(h0, .inr (3, fm))] s.heap.size = A at hD ⊢
  have hA : ∀ q : Nat, s.heap.size ≤ q → A q := fun q h => by rw [← hAe]; exact Or.inr h
  have hS : va_S A s.heap s.heap [] := va_S.rf
  have hl := lv_entry ([.ref h0, .int a1]) (n := 2) (Nat.le_of_ble_eq_true rfl)
  rw [lg_entry_eq]
  generalize (lg_sl ([.ref h0, .int a1]) ++ List.replicate (2 - (lg_sl ([.ref h0, .int a1])).length) Slot.unset).toArray = ls at hl ⊢
  obtain ⟨H, hHe⟩ : ∃ H, H = s.heap := ⟨_, rfl⟩
  rw [← hHe] at hP ⊢
  have hS : va_S A s.heap H [] := by rw [hHe]; exact hS
  have hl : lv_has ls 2 [(0, .ref h0), (1, .int a1)] := hl
  refine lv_aload_n hx hb dX3_shown_0 rfl (lv_at hl 0 rfl) ?_
  refine va_get (D := (dC, dI)) (ci := 3) (v := .int 0) (C := RX3) (T := TX3) (N := 21) hx hb hts iX3 hown hK hP 0 rfl rfl 0 (by decide) (hts _ (bP 390 rfl)) (fun _ h9 => h9) (kJ_at hM 0 rfl) dX3_shown_1 ?_
  refine lv_if_eq (tgt := 18) hx hb dX3_shown_4 (by decide) (fun _ => ?_) (fun h => absurd h (by decide))
  refine lv_iconst (v := (-1)) hx hb dX3_shown_18 (by decide) ?_
  exact W.iret (v := (-1)) hx hb hr (fun t ht hW => ⟨⟨(-1), (), rfl, rfl, trivial⟩, hS.F ht⟩) hS.2.2 dX3_shown_19
set_option maxHeartbeats 4000000 in
set_option maxRecDepth 100000 in
/-- c_Machine_tellProcess -/
theorem c_Machine_tellProcess (l : Launch) (dC : Nat → ClassId) (dI : Nat → Nat → Nat) (h0 sz : Nat) (fm : List Value) (a1 a2 : Int32) : Met l yX3_tellProcess (.code yX3_tellProcess cX3_tellProcess 5 (some .int) :: wP) ({ frames := 0, cells := 0, slots := 0, locals := 0 }) (va_Pc [.ref h0, .int a1, .int a2] (fun U => U.heap.size = sz ∧ kJ 21 [(0, .int 0)] fm ∧ va_P (dC, dI) vwCl [(h0, .inr (3, fm))] U.heap ∧ va_K (dC, dI) vwCl [] U ∧ va_D (fun _ => True) [(h0, .inr (3, fm))])) (va_Qi (fun r (_ : Unit) => r = -1) (fun (_ : Unit) (_ : State) => True) (va_A [(h0, .inr (3, fm))] sz)) 0 0 (va_A [(h0, .inr (3, fm))] sz) := by
  refine Met.ofW (cc := cX3_tellProcess) (maxL := 5) (ret := (some .int)) (by decide) rfl ?_
  intro p e s m args below meth c s₁ B hml hv
  obtain ⟨rfl, hsz, hM, hP, hK, hD0⟩ := hv
  have hx := B.exec
  have hb := B.bytes
  have hr := B.returns
  have hts := atoms_spec (ws := .code yX3_tellProcess cX3_tellProcess 5 (some .int) :: wP) B.pre
  have hown : s.vm.findClass RX3 = some m.cls := findClass_of_methodNamed B.named
  subst hsz
  have hD := hD0.self (sz := s.heap.size)
  generalize hAe : va_A [(h0, .inr (3, fm))] s.heap.size = A at hD ⊢
  have hA : ∀ q : Nat, s.heap.size ≤ q → A q := fun q h => by rw [← hAe]; exact Or.inr h
  have hS : va_S A s.heap s.heap [] := va_S.rf
  have hl := lv_entry ([.ref h0, .int a1, .int a2]) (n := 5) (Nat.le_of_ble_eq_true rfl)
  rw [lg_entry_eq]
  generalize (lg_sl ([.ref h0, .int a1, .int a2]) ++ List.replicate (5 - (lg_sl ([.ref h0, .int a1, .int a2])).length) Slot.unset).toArray = ls at hl ⊢
  obtain ⟨H, hHe⟩ : ∃ H, H = s.heap := ⟨_, rfl⟩
  rw [← hHe] at hP ⊢
  have hS : va_S A s.heap H [] := by rw [hHe]; exact hS
  have hl : lv_has ls 5 [(0, .ref h0), (1, .int a1), (2, .int a2)] := hl
  refine lv_aload_n hx hb dX3_tellProcess_0 rfl (lv_at hl 0 rfl) ?_
  refine va_get (D := (dC, dI)) (ci := 3) (v := .int 0) (C := RX3) (T := TX3) (N := 21) hx hb hts iX3 hown hK hP 0 rfl rfl 0 (by decide) (hts _ (bP 390 rfl)) (fun _ h9 => h9) (kJ_at hM 0 rfl) dX3_tellProcess_1 ?_
  refine lv_if_eq (tgt := 18) hx hb dX3_tellProcess_4 (by decide) (fun _ => ?_) (fun h => absurd h (by decide))
  refine lv_null hx hb dX3_tellProcess_18 ?_
  refine lv_astore_nN (lv' := [(3, .null), (0, .ref h0), (1, .int a1), (2, .int a2)]) hx hb dX3_tellProcess_19 rfl hl (by decide) rfl (fun ls hl => ?_)
  refine lv_aload_nN hx hb dX3_tellProcess_20 rfl (lv_at hl 0 rfl) ?_
  refine lv_ifnonnullN hx hb dX3_tellProcess_21 ?_
  refine lv_iconst (v := (-1)) hx hb dX3_tellProcess_24 (by decide) ?_
  exact W.iret (v := (-1)) hx hb hr (fun t ht hW => ⟨⟨(-1), (), rfl, rfl, trivial⟩, hS.F ht⟩) hS.2.2 dX3_tellProcess_25
set_option maxHeartbeats 4000000 in
set_option maxRecDepth 100000 in
/-- c_Machine_tellCell -/
theorem c_Machine_tellCell (l : Launch) (dC : Nat → ClassId) (dI : Nat → Nat → Nat) (h0 sz : Nat) (fm : List Value) (a1 : Int32) : Met l yX3_tellCell (.code yX3_tellCell cX3_tellCell 5 (some .int) :: wP) ({ frames := 0, cells := 0, slots := 0, locals := 0 }) (va_Pc [.ref h0, .int a1] (fun U => U.heap.size = sz ∧ kJ 21 [(0, .int 0)] fm ∧ va_P (dC, dI) vwCl [(h0, .inr (3, fm))] U.heap ∧ va_K (dC, dI) vwCl [] U ∧ va_D (fun _ => True) [(h0, .inr (3, fm))])) (va_Qi (fun r (_ : Unit) => r = 0) (fun (_ : Unit) (_ : State) => True) (va_A [(h0, .inr (3, fm))] sz)) 0 0 (va_A [(h0, .inr (3, fm))] sz) := by
  refine Met.ofW (cc := cX3_tellCell) (maxL := 5) (ret := (some .int)) (by decide) rfl ?_
  intro p e s m args below meth c s₁ B hml hv
  obtain ⟨rfl, hsz, hM, hP, hK, hD0⟩ := hv
  have hx := B.exec
  have hb := B.bytes
  have hr := B.returns
  have hts := atoms_spec (ws := .code yX3_tellCell cX3_tellCell 5 (some .int) :: wP) B.pre
  have hown : s.vm.findClass RX3 = some m.cls := findClass_of_methodNamed B.named
  subst hsz
  have hD := hD0.self (sz := s.heap.size)
  generalize hAe : va_A [(h0, .inr (3, fm))] s.heap.size = A at hD ⊢
  have hA : ∀ q : Nat, s.heap.size ≤ q → A q := fun q h => by rw [← hAe]; exact Or.inr h
  have hS : va_S A s.heap s.heap [] := va_S.rf
  have hl := lv_entry ([.ref h0, .int a1]) (n := 5) (Nat.le_of_ble_eq_true rfl)
  rw [lg_entry_eq]
  generalize (lg_sl ([.ref h0, .int a1]) ++ List.replicate (5 - (lg_sl ([.ref h0, .int a1])).length) Slot.unset).toArray = ls at hl ⊢
  obtain ⟨H, hHe⟩ : ∃ H, H = s.heap := ⟨_, rfl⟩
  rw [← hHe] at hP ⊢
  have hS : va_S A s.heap H [] := by rw [hHe]; exact hS
  have hl : lv_has ls 5 [(0, .ref h0), (1, .int a1)] := hl
  refine lv_aload_n hx hb dX3_tellCell_0 rfl (lv_at hl 0 rfl) ?_
  refine va_get (D := (dC, dI)) (ci := 3) (v := .int 0) (C := RX3) (T := TX3) (N := 21) hx hb hts iX3 hown hK hP 0 rfl rfl 0 (by decide) (hts _ (bP 390 rfl)) (fun _ h9 => h9) (kJ_at hM 0 rfl) dX3_tellCell_1 ?_
  refine lv_if_eq (tgt := 11) hx hb dX3_tellCell_4 (by decide) (fun _ => ?_) (fun h => absurd h (by decide))
  refine lv_iconst (v := 0) hx hb dX3_tellCell_11 (by decide) ?_
  exact W.iret (v := 0) hx hb hr (fun t ht hW => ⟨⟨0, (), rfl, rfl, trivial⟩, hS.F ht⟩) hS.2.2 dX3_tellCell_12
set_option maxHeartbeats 4000000 in
set_option maxRecDepth 100000 in
/-- c_Machine_tellMeeting -/
theorem c_Machine_tellMeeting (l : Launch) (dC : Nat → ClassId) (dI : Nat → Nat → Nat) (h0 sz : Nat) (fm : List Value) (a1 a2 : Int32) : Met l yX3_tellMeeting (.code yX3_tellMeeting cX3_tellMeeting 3 (some .int) :: wP) ({ frames := 0, cells := 0, slots := 0, locals := 0 }) (va_Pc [.ref h0, .int a1, .int a2] (fun U => U.heap.size = sz ∧ kJ 21 [(0, .int 0)] fm ∧ va_P (dC, dI) vwCl [(h0, .inr (3, fm))] U.heap ∧ va_K (dC, dI) vwCl [] U ∧ va_D (fun _ => True) [(h0, .inr (3, fm))])) (va_Qi (fun r (_ : Unit) => r = -1) (fun (_ : Unit) (_ : State) => True) (va_A [(h0, .inr (3, fm))] sz)) 0 0 (va_A [(h0, .inr (3, fm))] sz) := by
  refine Met.ofW (cc := cX3_tellMeeting) (maxL := 3) (ret := (some .int)) (by decide) rfl ?_
  intro p e s m args below meth c s₁ B hml hv
  obtain ⟨rfl, hsz, hM, hP, hK, hD0⟩ := hv
  have hx := B.exec
  have hb := B.bytes
  have hr := B.returns
  have hts := atoms_spec (ws := .code yX3_tellMeeting cX3_tellMeeting 3 (some .int) :: wP) B.pre
  have hown : s.vm.findClass RX3 = some m.cls := findClass_of_methodNamed B.named
  subst hsz
  have hD := hD0.self (sz := s.heap.size)
  generalize hAe : va_A [(h0, .inr (3, fm))] s.heap.size = A at hD ⊢
  have hA : ∀ q : Nat, s.heap.size ≤ q → A q := fun q h => by rw [← hAe]; exact Or.inr h
  have hS : va_S A s.heap s.heap [] := va_S.rf
  have hl := lv_entry ([.ref h0, .int a1, .int a2]) (n := 3) (Nat.le_of_ble_eq_true rfl)
  rw [lg_entry_eq]
  generalize (lg_sl ([.ref h0, .int a1, .int a2]) ++ List.replicate (3 - (lg_sl ([.ref h0, .int a1, .int a2])).length) Slot.unset).toArray = ls at hl ⊢
  obtain ⟨H, hHe⟩ : ∃ H, H = s.heap := ⟨_, rfl⟩
  rw [← hHe] at hP ⊢
  have hS : va_S A s.heap H [] := by rw [hHe]; exact hS
  have hl : lv_has ls 3 [(0, .ref h0), (1, .int a1), (2, .int a2)] := hl
  refine lv_aload_n hx hb dX3_tellMeeting_0 rfl (lv_at hl 0 rfl) ?_
  refine va_get (D := (dC, dI)) (ci := 3) (v := .int 0) (C := RX3) (T := TX3) (N := 21) hx hb hts iX3 hown hK hP 0 rfl rfl 0 (by decide) (hts _ (bP 390 rfl)) (fun _ h9 => h9) (kJ_at hM 0 rfl) dX3_tellMeeting_1 ?_
  refine lv_if_eq (tgt := 19) hx hb dX3_tellMeeting_4 (by decide) (fun _ => ?_) (fun h => absurd h (by decide))
  refine lv_iconst (v := (-1)) hx hb dX3_tellMeeting_19 (by decide) ?_
  exact W.iret (v := (-1)) hx hb hr (fun t ht hW => ⟨⟨(-1), (), rfl, rfl, trivial⟩, hS.F ht⟩) hS.2.2 dX3_tellMeeting_20
set_option maxHeartbeats 4000000 in
set_option maxRecDepth 100000 in
/-- c_Machine_tally -/
theorem c_Machine_tally (l : Launch) (dC : Nat → ClassId) (dI : Nat → Nat → Nat) (h0 sz : Nat) (fm : List Value) (a1 : Int32) : Met l yX3_tally (.code yX3_tally cX3_tally 2 (some .int) :: wP) ({ frames := 0, cells := 0, slots := 0, locals := 0 }) (va_Pc [.ref h0, .int a1] (fun U => U.heap.size = sz ∧ kJ 21 [(0, .int 0)] fm ∧ va_P (dC, dI) vwCl [(h0, .inr (3, fm))] U.heap ∧ va_K (dC, dI) vwCl [] U ∧ va_D (fun _ => True) [(h0, .inr (3, fm))])) (va_Qi (fun r (_ : Unit) => r = 0) (fun (_ : Unit) (_ : State) => True) (va_A [(h0, .inr (3, fm))] sz)) 0 0 (va_A [(h0, .inr (3, fm))] sz) := by
  refine Met.ofW (cc := cX3_tally) (maxL := 2) (ret := (some .int)) (by decide) rfl ?_
  intro p e s m args below meth c s₁ B hml hv
  obtain ⟨rfl, hsz, hM, hP, hK, hD0⟩ := hv
  have hx := B.exec
  have hb := B.bytes
  have hr := B.returns
  have hts := atoms_spec (ws := .code yX3_tally cX3_tally 2 (some .int) :: wP) B.pre
  have hown : s.vm.findClass RX3 = some m.cls := findClass_of_methodNamed B.named
  subst hsz
  have hD := hD0.self (sz := s.heap.size)
  generalize hAe : va_A [(h0, .inr (3, fm))] s.heap.size = A at hD ⊢
  have hA : ∀ q : Nat, s.heap.size ≤ q → A q := fun q h => by rw [← hAe]; exact Or.inr h
  have hS : va_S A s.heap s.heap [] := va_S.rf
  have hl := lv_entry ([.ref h0, .int a1]) (n := 2) (Nat.le_of_ble_eq_true rfl)
  rw [lg_entry_eq]
  generalize (lg_sl ([.ref h0, .int a1]) ++ List.replicate (2 - (lg_sl ([.ref h0, .int a1])).length) Slot.unset).toArray = ls at hl ⊢
  obtain ⟨H, hHe⟩ : ∃ H, H = s.heap := ⟨_, rfl⟩
  rw [← hHe] at hP ⊢
  have hS : va_S A s.heap H [] := by rw [hHe]; exact hS
  have hl : lv_has ls 2 [(0, .ref h0), (1, .int a1)] := hl
  refine lv_aload_n hx hb dX3_tally_0 rfl (lv_at hl 0 rfl) ?_
  refine va_get (D := (dC, dI)) (ci := 3) (v := .int 0) (C := RX3) (T := TX3) (N := 21) hx hb hts iX3 hown hK hP 0 rfl rfl 0 (by decide) (hts _ (bP 390 rfl)) (fun _ h9 => h9) (kJ_at hM 0 rfl) dX3_tally_1 ?_
  refine lv_if_ne (tgt := 9) hx hb dX3_tally_4 (by decide) (fun h => absurd h (by decide)) (fun _ => ?_)
  refine lv_iconst (v := 0) hx hb dX3_tally_7 (by decide) ?_
  exact W.iret (v := 0) hx hb hr (fun t ht hW => ⟨⟨0, (), rfl, rfl, trivial⟩, hS.F ht⟩) hS.2.2 dX3_tally_8
set_option maxHeartbeats 4000000 in
set_option maxRecDepth 100000 in
/-- c_MeetingHouse_key -/
theorem c_MeetingHouse_key (l : Launch) (dC : Nat → ClassId) (dI : Nat → Nat → Nat) (h0 sz : Nat) (fx fm : List Value) (qm : Nat) (a1 : Int32) : Met l yX11_key (.code yX11_key cX11_key 2 (some .boolean) :: wP) ({ frames := 1, cells := 0, slots := 0, locals := 26 }) (va_Pc [.ref h0, .int a1] (fun U => U.heap.size = sz ∧ kJ 9 [(7, .ref qm)] fx ∧ kJ 21 [(0, .int 0)] fm ∧ va_P (dC, dI) vwCl [(h0, .inr (11, fx)), (qm, .inr (3, fm))] U.heap ∧ va_K (dC, dI) vwCl [] U ∧ va_D (fun _ => True) [(h0, .inr (11, fx)), (qm, .inr (3, fm))])) (va_Qi (fun r (_ : Unit) => r = 0) (fun (_ : Unit) (_ : State) => True) (va_A [(h0, .inr (11, fx)), (qm, .inr (3, fm))] sz)) 0 0 (va_A [(h0, .inr (11, fx)), (qm, .inr (3, fm))] sz) := by
  refine Met.ofW (cc := cX11_key) (maxL := 2) (ret := (some .boolean)) (by decide) rfl ?_
  intro p e s m args below meth c s₁ B hml hv
  obtain ⟨rfl, hsz, hJ, hM, hP, hK, hD0⟩ := hv
  have hx := B.exec
  have hb := B.bytes
  have hr := B.returns
  have hts := atoms_spec (ws := .code yX11_key cX11_key 2 (some .boolean) :: wP) B.pre
  have hown : s.vm.findClass RX11 = some m.cls := findClass_of_methodNamed B.named
  subst hsz
  have hD := hD0.self (sz := s.heap.size)
  generalize hAe : va_A [(h0, .inr (11, fx)), (qm, .inr (3, fm))] s.heap.size = A at hD ⊢
  have hA : ∀ q : Nat, s.heap.size ≤ q → A q := fun q h => by rw [← hAe]; exact Or.inr h
  have hS : va_S A s.heap s.heap [] := va_S.rf
  have hl := lv_entry ([.ref h0, .int a1]) (n := 2) (Nat.le_of_ble_eq_true rfl)
  rw [lg_entry_eq]
  generalize (lg_sl ([.ref h0, .int a1]) ++ List.replicate (2 - (lg_sl ([.ref h0, .int a1])).length) Slot.unset).toArray = ls at hl ⊢
  obtain ⟨H, hHe⟩ : ∃ H, H = s.heap := ⟨_, rfl⟩
  rw [← hHe] at hP ⊢
  have hS : va_S A s.heap H [] := by rw [hHe]; exact hS
  have hl : lv_has ls 2 [(0, .ref h0), (1, .int a1)] := hl
  refine lv_aload_n hx hb dX11_key_0 rfl (lv_at hl 0 rfl) ?_
  refine va_get (D := (dC, dI)) (ci := 11) (v := .ref qm) (C := RX11) (T := TX11) (N := 9) hx hb hts iX11 hown hK hP 0 rfl rfl 7 (by decide) (hts _ (bP 387 rfl)) (fun _ h9 => h9) (kJ_at hJ 0 rfl) dX11_key_1 ?_
  refine lv_iload_n hx hb dX11_key_4 rfl (lv_at hl 1 rfl) ?_
  refine lv_sipush (v := 255) hx hb dX11_key_5 (by decide) ?_
  refine lv_iand hx hb dX11_key_8 ?_
  refine lv_topi (fun z1 ez1 => ?_)
  have hPc := hP.sub (ws' := [(qm, .inr (3, fm))]) [1] rfl
  have hDc := hD.sub (ws' := [(qm, .inr (3, fm))]) [1] (by decide) rfl
  have hKc := hK.sub (tys' := []) [] rfl
  have hFc := va_free (wc := [(qm, .inr (3, fm))]) hD hS hA [1] rfl
  refine va_calli (va_runV (As := [.int z1]) (rest := []) ⟨hx, hb, hml, hown, hts⟩ (c_Machine_press l dC dI qm H.size fm z1) (cwV 1 hts (gV (y := yX3_press) _ 397 398 399 384 389 rfl rfl rfl rfl rfl) rfl rfl rfl (by decide +kernel) ⟨Nat.le_of_ble_eq_true rfl, Nat.le_of_ble_eq_true rfl⟩) ⟨fun a U g mk q => by obtain ⟨q0, q1, qJ, qP, qK, qD⟩ := q; exact ⟨q0, q1, qJ, qP, va_K.moved (u := U) (U := U.calling g mk a) (Vm.Alike.refl U.vm) qK, qD⟩, va_recv hKc hPc (ci := 3) (q0 := 0) rfl rfl, fun U hU hW => ⟨rfl, by rw [hU], hM, by rw [hU]; exact hPc, va_K.moved hW.alike hKc, hDc.weaken (fun _ _ _ _ => trivial)⟩⟩ rfl rfl hl.1 rfl (lv_room (Nat.le_of_ble_eq_true rfl)) dX11_key_9 ⟨Nat.le_of_ble_eq_true rfl, Nat.le_of_ble_eq_true rfl⟩) hS (fun q _ h => hFc q h) hFc (fun r u t H1 locs ht hvm hw hB hz1 hk1 hS => ?_)
  subst hw
  exact W.zret (v := 0) hx hb hr (by first | decide | (rw [hw]; decide)) (fun t ht hW => ⟨⟨0, (), rfl, rfl, trivial⟩, hS.F ht⟩) hS.2.2 dX11_key_12
set_option maxHeartbeats 4000000 in
set_option maxRecDepth 100000 in
/-- c_MeetingHouse_output -/
theorem c_MeetingHouse_output (l : Launch) (dC : Nat → ClassId) (dI : Nat → Nat → Nat) (h0 sz : Nat) (fx fm : List Value) (qm : Nat) (a1 : Int32) : Met l yX11_output (.code yX11_output cX11_output 2 (some .int) :: wP) ({ frames := 1, cells := 0, slots := 0, locals := 26 }) (va_Pc [.ref h0, .int a1] (fun U => U.heap.size = sz ∧ kJ 9 [(7, .ref qm)] fx ∧ kJ 21 [(0, .int 0)] fm ∧ va_P (dC, dI) vwCl [(h0, .inr (11, fx)), (qm, .inr (3, fm))] U.heap ∧ va_K (dC, dI) vwCl [] U ∧ va_D (fun _ => True) [(h0, .inr (11, fx)), (qm, .inr (3, fm))])) (va_Qi (fun r (_ : Unit) => r = (-1)) (fun (_ : Unit) (_ : State) => True) (va_A [(h0, .inr (11, fx)), (qm, .inr (3, fm))] sz)) 0 0 (va_A [(h0, .inr (11, fx)), (qm, .inr (3, fm))] sz) := by
  refine Met.ofW (cc := cX11_output) (maxL := 2) (ret := (some .int)) (by decide) rfl ?_
  intro p e s m args below meth c s₁ B hml hv
  obtain ⟨rfl, hsz, hJ, hM, hP, hK, hD0⟩ := hv
  have hx := B.exec
  have hb := B.bytes
  have hr := B.returns
  have hts := atoms_spec (ws := .code yX11_output cX11_output 2 (some .int) :: wP) B.pre
  have hown : s.vm.findClass RX11 = some m.cls := findClass_of_methodNamed B.named
  subst hsz
  have hD := hD0.self (sz := s.heap.size)
  generalize hAe : va_A [(h0, .inr (11, fx)), (qm, .inr (3, fm))] s.heap.size = A at hD ⊢
  have hA : ∀ q : Nat, s.heap.size ≤ q → A q := fun q h => by rw [← hAe]; exact Or.inr h
  have hS : va_S A s.heap s.heap [] := va_S.rf
  have hl := lv_entry ([.ref h0, .int a1]) (n := 2) (Nat.le_of_ble_eq_true rfl)
  rw [lg_entry_eq]
  generalize (lg_sl ([.ref h0, .int a1]) ++ List.replicate (2 - (lg_sl ([.ref h0, .int a1])).length) Slot.unset).toArray = ls at hl ⊢
  obtain ⟨H, hHe⟩ : ∃ H, H = s.heap := ⟨_, rfl⟩
  rw [← hHe] at hP ⊢
  have hS : va_S A s.heap H [] := by rw [hHe]; exact hS
  have hl : lv_has ls 2 [(0, .ref h0), (1, .int a1)] := hl
  refine lv_aload_n hx hb dX11_output_0 rfl (lv_at hl 0 rfl) ?_
  refine va_get (D := (dC, dI)) (ci := 11) (v := .ref qm) (C := RX11) (T := TX11) (N := 9) hx hb hts iX11 hown hK hP 0 rfl rfl 7 (by decide) (hts _ (bP 387 rfl)) (fun _ h9 => h9) (kJ_at hJ 0 rfl) dX11_output_1 ?_
  refine lv_iload_n hx hb dX11_output_4 rfl (lv_at hl 1 rfl) ?_
  have hPc := hP.sub (ws' := [(qm, .inr (3, fm))]) [1] rfl
  have hDc := hD.sub (ws' := [(qm, .inr (3, fm))]) [1] (by decide) rfl
  have hKc := hK.sub (tys' := []) [] rfl
  have hFc := va_free (wc := [(qm, .inr (3, fm))]) hD hS hA [1] rfl
  refine va_calli (va_runV (As := [.int a1]) (rest := []) ⟨hx, hb, hml, hown, hts⟩ (c_Machine_shown l dC dI qm H.size fm a1) (cwV 1 hts (gV (y := yX3_shown) _ 401 402 403 384 391 rfl rfl rfl rfl rfl) rfl rfl rfl (by decide +kernel) ⟨Nat.le_of_ble_eq_true rfl, Nat.le_of_ble_eq_true rfl⟩) ⟨fun a U g mk q => by obtain ⟨q0, q1, qJ, qP, qK, qD⟩ := q; exact ⟨q0, q1, qJ, qP, va_K.moved (u := U) (U := U.calling g mk a) (Vm.Alike.refl U.vm) qK, qD⟩, va_recv hKc hPc (ci := 3) (q0 := 0) rfl rfl, fun U hU hW => ⟨rfl, by rw [hU], hM, by rw [hU]; exact hPc, va_K.moved hW.alike hKc, hDc.weaken (fun _ _ _ _ => trivial)⟩⟩ rfl rfl hl.1 rfl (lv_room (Nat.le_of_ble_eq_true rfl)) dX11_output_5 ⟨Nat.le_of_ble_eq_true rfl, Nat.le_of_ble_eq_true rfl⟩) hS (fun q _ h => hFc q h) hFc (fun r u t H1 locs ht hvm hw hB hz1 hk1 hS => ?_)
  subst hw
  exact W.iret (v := (-1)) hx hb hr (fun t ht hW => ⟨⟨(-1), (), rfl, rfl, trivial⟩, hS.F ht⟩) hS.2.2 dX11_output_8
set_option maxHeartbeats 4000000 in
set_option maxRecDepth 100000 in
/-- c_MeetingHouse_process -/
theorem c_MeetingHouse_process (l : Launch) (dC : Nat → ClassId) (dI : Nat → Nat → Nat) (h0 sz : Nat) (fx fm : List Value) (qm : Nat) (a1 a2 : Int32) : Met l yX11_process (.code yX11_process cX11_process 3 (some .int) :: wP) ({ frames := 1, cells := 0, slots := 0, locals := 26 }) (va_Pc [.ref h0, .int a1, .int a2] (fun U => U.heap.size = sz ∧ kJ 9 [(7, .ref qm)] fx ∧ kJ 21 [(0, .int 0)] fm ∧ va_P (dC, dI) vwCl [(h0, .inr (11, fx)), (qm, .inr (3, fm))] U.heap ∧ va_K (dC, dI) vwCl [] U ∧ va_D (fun _ => True) [(h0, .inr (11, fx)), (qm, .inr (3, fm))])) (va_Qi (fun r (_ : Unit) => r = (-1)) (fun (_ : Unit) (_ : State) => True) (va_A [(h0, .inr (11, fx)), (qm, .inr (3, fm))] sz)) 0 0 (va_A [(h0, .inr (11, fx)), (qm, .inr (3, fm))] sz) := by
  refine Met.ofW (cc := cX11_process) (maxL := 3) (ret := (some .int)) (by decide) rfl ?_
  intro p e s m args below meth c s₁ B hml hv
  obtain ⟨rfl, hsz, hJ, hM, hP, hK, hD0⟩ := hv
  have hx := B.exec
  have hb := B.bytes
  have hr := B.returns
  have hts := atoms_spec (ws := .code yX11_process cX11_process 3 (some .int) :: wP) B.pre
  have hown : s.vm.findClass RX11 = some m.cls := findClass_of_methodNamed B.named
  subst hsz
  have hD := hD0.self (sz := s.heap.size)
  generalize hAe : va_A [(h0, .inr (11, fx)), (qm, .inr (3, fm))] s.heap.size = A at hD ⊢
  have hA : ∀ q : Nat, s.heap.size ≤ q → A q := fun q h => by rw [← hAe]; exact Or.inr h
  have hS : va_S A s.heap s.heap [] := va_S.rf
  have hl := lv_entry ([.ref h0, .int a1, .int a2]) (n := 3) (Nat.le_of_ble_eq_true rfl)
  rw [lg_entry_eq]
  generalize (lg_sl ([.ref h0, .int a1, .int a2]) ++ List.replicate (3 - (lg_sl ([.ref h0, .int a1, .int a2])).length) Slot.unset).toArray = ls at hl ⊢
  obtain ⟨H, hHe⟩ : ∃ H, H = s.heap := ⟨_, rfl⟩
  rw [← hHe] at hP ⊢
  have hS : va_S A s.heap H [] := by rw [hHe]; exact hS
  have hl : lv_has ls 3 [(0, .ref h0), (1, .int a1), (2, .int a2)] := hl
  refine lv_aload_n hx hb dX11_process_0 rfl (lv_at hl 0 rfl) ?_
  refine va_get (D := (dC, dI)) (ci := 11) (v := .ref qm) (C := RX11) (T := TX11) (N := 9) hx hb hts iX11 hown hK hP 0 rfl rfl 7 (by decide) (hts _ (bP 387 rfl)) (fun _ h9 => h9) (kJ_at hJ 0 rfl) dX11_process_1 ?_
  refine lv_iload_n hx hb dX11_process_4 rfl (lv_at hl 1 rfl) ?_
  refine lv_iload_n hx hb dX11_process_5 rfl (lv_at hl 2 rfl) ?_
  have hPc := hP.sub (ws' := [(qm, .inr (3, fm))]) [1] rfl
  have hDc := hD.sub (ws' := [(qm, .inr (3, fm))]) [1] (by decide) rfl
  have hKc := hK.sub (tys' := []) [] rfl
  have hFc := va_free (wc := [(qm, .inr (3, fm))]) hD hS hA [1] rfl
  refine va_calli (va_runV (As := [.int a1, .int a2]) (rest := []) ⟨hx, hb, hml, hown, hts⟩ (c_Machine_tellProcess l dC dI qm H.size fm a1 a2) (cwV 2 hts (gV (y := yX3_tellProcess) _ 405 406 407 384 392 rfl rfl rfl rfl rfl) rfl rfl rfl (by decide +kernel) ⟨Nat.le_of_ble_eq_true rfl, Nat.le_of_ble_eq_true rfl⟩) ⟨fun a U g mk q => by obtain ⟨q0, q1, qJ, qP, qK, qD⟩ := q; exact ⟨q0, q1, qJ, qP, va_K.moved (u := U) (U := U.calling g mk a) (Vm.Alike.refl U.vm) qK, qD⟩, va_recv hKc hPc (ci := 3) (q0 := 0) rfl rfl, fun U hU hW => ⟨rfl, by rw [hU], hM, by rw [hU]; exact hPc, va_K.moved hW.alike hKc, hDc.weaken (fun _ _ _ _ => trivial)⟩⟩ rfl rfl hl.1 rfl (lv_room (Nat.le_of_ble_eq_true rfl)) dX11_process_6 ⟨Nat.le_of_ble_eq_true rfl, Nat.le_of_ble_eq_true rfl⟩) hS (fun q _ h => hFc q h) hFc (fun r u t H1 locs ht hvm hw hB hz1 hk1 hS => ?_)
  subst hw
  exact W.iret (v := (-1)) hx hb hr (fun t ht hW => ⟨⟨(-1), (), rfl, rfl, trivial⟩, hS.F ht⟩) hS.2.2 dX11_process_9
set_option maxHeartbeats 4000000 in
set_option maxRecDepth 100000 in
/-- c_MeetingHouse_cell -/
theorem c_MeetingHouse_cell (l : Launch) (dC : Nat → ClassId) (dI : Nat → Nat → Nat) (h0 sz : Nat) (fx fm : List Value) (qm : Nat) (a1 : Int32) : Met l yX11_cell (.code yX11_cell cX11_cell 2 (some .int) :: wP) ({ frames := 1, cells := 0, slots := 0, locals := 26 }) (va_Pc [.ref h0, .int a1] (fun U => U.heap.size = sz ∧ kJ 9 [(7, .ref qm)] fx ∧ kJ 21 [(0, .int 0)] fm ∧ va_P (dC, dI) vwCl [(h0, .inr (11, fx)), (qm, .inr (3, fm))] U.heap ∧ va_K (dC, dI) vwCl [] U ∧ va_D (fun _ => True) [(h0, .inr (11, fx)), (qm, .inr (3, fm))])) (va_Qi (fun r (_ : Unit) => r = 0) (fun (_ : Unit) (_ : State) => True) (va_A [(h0, .inr (11, fx)), (qm, .inr (3, fm))] sz)) 0 0 (va_A [(h0, .inr (11, fx)), (qm, .inr (3, fm))] sz) := by
  refine Met.ofW (cc := cX11_cell) (maxL := 2) (ret := (some .int)) (by decide) rfl ?_
  intro p e s m args below meth c s₁ B hml hv
  obtain ⟨rfl, hsz, hJ, hM, hP, hK, hD0⟩ := hv
  have hx := B.exec
  have hb := B.bytes
  have hr := B.returns
  have hts := atoms_spec (ws := .code yX11_cell cX11_cell 2 (some .int) :: wP) B.pre
  have hown : s.vm.findClass RX11 = some m.cls := findClass_of_methodNamed B.named
  subst hsz
  have hD := hD0.self (sz := s.heap.size)
  generalize hAe : va_A [(h0, .inr (11, fx)), (qm, .inr (3, fm))] s.heap.size = A at hD ⊢
  have hA : ∀ q : Nat, s.heap.size ≤ q → A q := fun q h => by rw [← hAe]; exact Or.inr h
  have hS : va_S A s.heap s.heap [] := va_S.rf
  have hl := lv_entry ([.ref h0, .int a1]) (n := 2) (Nat.le_of_ble_eq_true rfl)
  rw [lg_entry_eq]
  generalize (lg_sl ([.ref h0, .int a1]) ++ List.replicate (2 - (lg_sl ([.ref h0, .int a1])).length) Slot.unset).toArray = ls at hl ⊢
  obtain ⟨H, hHe⟩ : ∃ H, H = s.heap := ⟨_, rfl⟩
  rw [← hHe] at hP ⊢
  have hS : va_S A s.heap H [] := by rw [hHe]; exact hS
  have hl : lv_has ls 2 [(0, .ref h0), (1, .int a1)] := hl
  refine lv_aload_n hx hb dX11_cell_0 rfl (lv_at hl 0 rfl) ?_
  refine va_get (D := (dC, dI)) (ci := 11) (v := .ref qm) (C := RX11) (T := TX11) (N := 9) hx hb hts iX11 hown hK hP 0 rfl rfl 7 (by decide) (hts _ (bP 387 rfl)) (fun _ h9 => h9) (kJ_at hJ 0 rfl) dX11_cell_1 ?_
  refine lv_iload_n hx hb dX11_cell_4 rfl (lv_at hl 1 rfl) ?_
  have hPc := hP.sub (ws' := [(qm, .inr (3, fm))]) [1] rfl
  have hDc := hD.sub (ws' := [(qm, .inr (3, fm))]) [1] (by decide) rfl
  have hKc := hK.sub (tys' := []) [] rfl
  have hFc := va_free (wc := [(qm, .inr (3, fm))]) hD hS hA [1] rfl
  refine va_calli (va_runV (As := [.int a1]) (rest := []) ⟨hx, hb, hml, hown, hts⟩ (c_Machine_tellCell l dC dI qm H.size fm a1) (cwV 1 hts (gV (y := yX3_tellCell) _ 409 410 411 384 393 rfl rfl rfl rfl rfl) rfl rfl rfl (by decide +kernel) ⟨Nat.le_of_ble_eq_true rfl, Nat.le_of_ble_eq_true rfl⟩) ⟨fun a U g mk q => by obtain ⟨q0, q1, qJ, qP, qK, qD⟩ := q; exact ⟨q0, q1, qJ, qP, va_K.moved (u := U) (U := U.calling g mk a) (Vm.Alike.refl U.vm) qK, qD⟩, va_recv hKc hPc (ci := 3) (q0 := 0) rfl rfl, fun U hU hW => ⟨rfl, by rw [hU], hM, by rw [hU]; exact hPc, va_K.moved hW.alike hKc, hDc.weaken (fun _ _ _ _ => trivial)⟩⟩ rfl rfl hl.1 rfl (lv_room (Nat.le_of_ble_eq_true rfl)) dX11_cell_5 ⟨Nat.le_of_ble_eq_true rfl, Nat.le_of_ble_eq_true rfl⟩) hS (fun q _ h => hFc q h) hFc (fun r u t H1 locs ht hvm hw hB hz1 hk1 hS => ?_)
  subst hw
  exact W.iret (v := 0) hx hb hr (fun t ht hW => ⟨⟨0, (), rfl, rfl, trivial⟩, hS.F ht⟩) hS.2.2 dX11_cell_8
set_option maxHeartbeats 4000000 in
set_option maxRecDepth 100000 in
/-- c_MeetingHouse_meeting -/
theorem c_MeetingHouse_meeting (l : Launch) (dC : Nat → ClassId) (dI : Nat → Nat → Nat) (h0 sz : Nat) (fx fm : List Value) (qm : Nat) (a1 a2 : Int32) : Met l yX11_meeting (.code yX11_meeting cX11_meeting 3 (some .int) :: wP) ({ frames := 1, cells := 0, slots := 0, locals := 26 }) (va_Pc [.ref h0, .int a1, .int a2] (fun U => U.heap.size = sz ∧ kJ 9 [(7, .ref qm)] fx ∧ kJ 21 [(0, .int 0)] fm ∧ va_P (dC, dI) vwCl [(h0, .inr (11, fx)), (qm, .inr (3, fm))] U.heap ∧ va_K (dC, dI) vwCl [] U ∧ va_D (fun _ => True) [(h0, .inr (11, fx)), (qm, .inr (3, fm))])) (va_Qi (fun r (_ : Unit) => r = (-1)) (fun (_ : Unit) (_ : State) => True) (va_A [(h0, .inr (11, fx)), (qm, .inr (3, fm))] sz)) 0 0 (va_A [(h0, .inr (11, fx)), (qm, .inr (3, fm))] sz) := by
  refine Met.ofW (cc := cX11_meeting) (maxL := 3) (ret := (some .int)) (by decide) rfl ?_
  intro p e s m args below meth c s₁ B hml hv
  obtain ⟨rfl, hsz, hJ, hM, hP, hK, hD0⟩ := hv
  have hx := B.exec
  have hb := B.bytes
  have hr := B.returns
  have hts := atoms_spec (ws := .code yX11_meeting cX11_meeting 3 (some .int) :: wP) B.pre
  have hown : s.vm.findClass RX11 = some m.cls := findClass_of_methodNamed B.named
  subst hsz
  have hD := hD0.self (sz := s.heap.size)
  generalize hAe : va_A [(h0, .inr (11, fx)), (qm, .inr (3, fm))] s.heap.size = A at hD ⊢
  have hA : ∀ q : Nat, s.heap.size ≤ q → A q := fun q h => by rw [← hAe]; exact Or.inr h
  have hS : va_S A s.heap s.heap [] := va_S.rf
  have hl := lv_entry ([.ref h0, .int a1, .int a2]) (n := 3) (Nat.le_of_ble_eq_true rfl)
  rw [lg_entry_eq]
  generalize (lg_sl ([.ref h0, .int a1, .int a2]) ++ List.replicate (3 - (lg_sl ([.ref h0, .int a1, .int a2])).length) Slot.unset).toArray = ls at hl ⊢
  obtain ⟨H, hHe⟩ : ∃ H, H = s.heap := ⟨_, rfl⟩
  rw [← hHe] at hP ⊢
  have hS : va_S A s.heap H [] := by rw [hHe]; exact hS
  have hl : lv_has ls 3 [(0, .ref h0), (1, .int a1), (2, .int a2)] := hl
  refine lv_aload_n hx hb dX11_meeting_0 rfl (lv_at hl 0 rfl) ?_
  refine va_get (D := (dC, dI)) (ci := 11) (v := .ref qm) (C := RX11) (T := TX11) (N := 9) hx hb hts iX11 hown hK hP 0 rfl rfl 7 (by decide) (hts _ (bP 387 rfl)) (fun _ h9 => h9) (kJ_at hJ 0 rfl) dX11_meeting_1 ?_
  refine lv_iload_n hx hb dX11_meeting_4 rfl (lv_at hl 1 rfl) ?_
  refine lv_iload_n hx hb dX11_meeting_5 rfl (lv_at hl 2 rfl) ?_
  have hPc := hP.sub (ws' := [(qm, .inr (3, fm))]) [1] rfl
  have hDc := hD.sub (ws' := [(qm, .inr (3, fm))]) [1] (by decide) rfl
  have hKc := hK.sub (tys' := []) [] rfl
  have hFc := va_free (wc := [(qm, .inr (3, fm))]) hD hS hA [1] rfl
  refine va_calli (va_runV (As := [.int a1, .int a2]) (rest := []) ⟨hx, hb, hml, hown, hts⟩ (c_Machine_tellMeeting l dC dI qm H.size fm a1 a2) (cwV 2 hts (gV (y := yX3_tellMeeting) _ 413 414 415 384 394 rfl rfl rfl rfl rfl) rfl rfl rfl (by decide +kernel) ⟨Nat.le_of_ble_eq_true rfl, Nat.le_of_ble_eq_true rfl⟩) ⟨fun a U g mk q => by obtain ⟨q0, q1, qJ, qP, qK, qD⟩ := q; exact ⟨q0, q1, qJ, qP, va_K.moved (u := U) (U := U.calling g mk a) (Vm.Alike.refl U.vm) qK, qD⟩, va_recv hKc hPc (ci := 3) (q0 := 0) rfl rfl, fun U hU hW => ⟨rfl, by rw [hU], hM, by rw [hU]; exact hPc, va_K.moved hW.alike hKc, hDc.weaken (fun _ _ _ _ => trivial)⟩⟩ rfl rfl hl.1 rfl (lv_room (Nat.le_of_ble_eq_true rfl)) dX11_meeting_6 ⟨Nat.le_of_ble_eq_true rfl, Nat.le_of_ble_eq_true rfl⟩) hS (fun q _ h => hFc q h) hFc (fun r u t H1 locs ht hvm hw hB hz1 hk1 hS => ?_)
  subst hw
  exact W.iret (v := (-1)) hx hb hr (fun t ht hW => ⟨⟨(-1), (), rfl, rfl, trivial⟩, hS.F ht⟩) hS.2.2 dX11_meeting_9
set_option maxHeartbeats 4000000 in
set_option maxRecDepth 100000 in
/-- c_MeetingHouse_clashes -/
theorem c_MeetingHouse_clashes (l : Launch) (dC : Nat → ClassId) (dI : Nat → Nat → Nat) (h0 sz : Nat) (fx : List Value) : Met l yX11_clashes (.code yX11_clashes cX11_clashes 1 (some .int) :: wP) ({ frames := 0, cells := 0, slots := 0, locals := 0 }) (va_Pc [.ref h0] (fun U => U.heap.size = sz ∧ True ∧ va_P (dC, dI) vwCl [(h0, .inr (11, fx))] U.heap ∧ va_K (dC, dI) vwCl [] U ∧ va_D (fun _ => True) [(h0, .inr (11, fx))])) (va_Qi (fun r (_ : Unit) => r = 0) (fun (_ : Unit) (_ : State) => True) (va_A [(h0, .inr (11, fx))] sz)) 0 0 (va_A [(h0, .inr (11, fx))] sz) := by
  refine Met.ofW (cc := cX11_clashes) (maxL := 1) (ret := (some .int)) (by decide) rfl ?_
  intro p e s m args below meth c s₁ B hml hv
  obtain ⟨rfl, hsz, hTr, hP, hK, hD0⟩ := hv
  have hx := B.exec
  have hb := B.bytes
  have hr := B.returns
  have hts := atoms_spec (ws := .code yX11_clashes cX11_clashes 1 (some .int) :: wP) B.pre
  have hown : s.vm.findClass RX11 = some m.cls := findClass_of_methodNamed B.named
  subst hsz
  have hD := hD0.self (sz := s.heap.size)
  generalize hAe : va_A [(h0, .inr (11, fx))] s.heap.size = A at hD ⊢
  have hA : ∀ q : Nat, s.heap.size ≤ q → A q := fun q h => by rw [← hAe]; exact Or.inr h
  have hS : va_S A s.heap s.heap [] := va_S.rf
  have hl := lv_entry ([.ref h0]) (n := 1) (Nat.le_of_ble_eq_true rfl)
  rw [lg_entry_eq]
  generalize (lg_sl ([.ref h0]) ++ List.replicate (1 - (lg_sl ([.ref h0])).length) Slot.unset).toArray = ls at hl ⊢
  obtain ⟨H, hHe⟩ : ∃ H, H = s.heap := ⟨_, rfl⟩
  rw [← hHe] at hP ⊢
  have hS : va_S A s.heap H [] := by rw [hHe]; exact hS
  have hl : lv_has ls 1 [(0, .ref h0)] := hl
  refine lv_iconst (v := 0) hx hb dX11_clashes_0 (by decide) ?_
  exact W.iret (v := 0) hx hb hr (fun t ht hW => ⟨⟨0, (), rfl, rfl, trivial⟩, hS.F ht⟩) hS.2.2 dX11_clashes_1
theorem cnt4 {x : Int32} (h : ¬ x ≤ 13) : (-1 : Int32) = cnt x := cnt2 (Int32.not_le.mp h)
theorem cnt5 {x : Int32} (h1 : ¬ x < 0) (h2 : x ≤ 13) : (0 : Int32) = cnt x := (if_neg (fun h => h.elim h1 (fun h => absurd h2 (Int32.not_le.mpr h)))).symm
set_option maxHeartbeats 4000000 in
set_option maxRecDepth 100000 in
/-- c_MeetingHouse_count -/
theorem c_MeetingHouse_count (l : Launch) (dC : Nat → ClassId) (dI : Nat → Nat → Nat) (h0 sz : Nat) (fx ft fm : List Value) (qt qm : Nat) (a1 : Int32) : Met l yX11_count (.code yX11_count cX11_count 2 (some .int) :: wP) ({ frames := 1, cells := 0, slots := 0, locals := 26 }) (va_Pc [.ref h0, .int a1] (fun U => U.heap.size = sz ∧ kJ 9 [(8, .int 0), (7, .ref qm), (0, .ref qt)] fx ∧ kJ 19 [(1, .int 0)] ft ∧ kJ 21 [(0, .int 0)] fm ∧ va_P (dC, dI) vwCl [(h0, .inr (11, fx)), (qt, .inr (7, ft)), (qm, .inr (3, fm))] U.heap ∧ va_K (dC, dI) vwCl [] U ∧ va_D (fun _ => True) [(h0, .inr (11, fx)), (qt, .inr (7, ft)), (qm, .inr (3, fm))])) (va_Qi (fun r (_ : Unit) => r = cnt a1) (fun (_ : Unit) (_ : State) => True) (va_A [(h0, .inr (11, fx)), (qt, .inr (7, ft)), (qm, .inr (3, fm))] sz)) 0 0 (va_A [(h0, .inr (11, fx)), (qt, .inr (7, ft)), (qm, .inr (3, fm))] sz) := by
  refine Met.ofW (cc := cX11_count) (maxL := 2) (ret := (some .int)) (by decide) rfl ?_
  intro p e s m args below meth c s₁ B hml hv
  obtain ⟨rfl, hsz, hJ, hT, hM, hP, hK, hD0⟩ := hv
  have hx := B.exec
  have hb := B.bytes
  have hr := B.returns
  have hts := atoms_spec (ws := .code yX11_count cX11_count 2 (some .int) :: wP) B.pre
  have hown : s.vm.findClass RX11 = some m.cls := findClass_of_methodNamed B.named
  subst hsz
  have hD := hD0.self (sz := s.heap.size)
  generalize hAe : va_A [(h0, .inr (11, fx)), (qt, .inr (7, ft)), (qm, .inr (3, fm))] s.heap.size = A at hD ⊢
  have hA : ∀ q : Nat, s.heap.size ≤ q → A q := fun q h => by rw [← hAe]; exact Or.inr h
  have hS : va_S A s.heap s.heap [] := va_S.rf
  have hl := lv_entry ([.ref h0, .int a1]) (n := 2) (Nat.le_of_ble_eq_true rfl)
  rw [lg_entry_eq]
  generalize (lg_sl ([.ref h0, .int a1]) ++ List.replicate (2 - (lg_sl ([.ref h0, .int a1])).length) Slot.unset).toArray = ls at hl ⊢
  obtain ⟨H, hHe⟩ : ∃ H, H = s.heap := ⟨_, rfl⟩
  rw [← hHe] at hP ⊢
  have hS : va_S A s.heap H [] := by rw [hHe]; exact hS
  have hl : lv_has ls 2 [(0, .ref h0), (1, .int a1)] := hl
  refine lv_iload_n hx hb dX11_count_0 rfl (lv_at hl 1 rfl) ?_
  refine lv_if_lt (tgt := 10) hx hb dX11_count_1 (by decide) (fun h1 => ?_) (fun h1 => ?_)
  · refine lv_iconst (v := (-1)) hx hb dX11_count_10 (by decide) ?_
    exact W.iret (v := (-1)) hx hb hr (fun t ht hW => ⟨⟨(-1), (), rfl, by first | exact cnt1 h1 | exact cnt4 h7 | exact cnt5 h1 h7, trivial⟩, hS.F ht⟩) hS.2.2 dX11_count_11
  · refine lv_iload_n hx hb dX11_count_4 rfl (lv_at hl 1 rfl) ?_
    refine lv_bipush (v := 13) hx hb dX11_count_5 (by decide) ?_
    refine lv_icmp_le (tgt := 12) hx hb dX11_count_7 (by decide) (fun h7 => ?_) (fun h7 => ?_)
    · refine lv_iload_n hx hb dX11_count_12 rfl (lv_at hl 1 rfl) ?_
      refine lv_iconst (v := 3) hx hb dX11_count_13 (by decide) ?_
      refine lv_icmp_ne (tgt := 25) hx hb dX11_count_14 (by decide) (fun h14 => ?_) (fun h14 => ?_)
      · refine lv_iload_n hx hb dX11_count_25 rfl (lv_at hl 1 rfl) ?_
        refine lv_iconst (v := 3) hx hb dX11_count_26 (by decide) ?_
        refine lv_icmp_le (tgt := 39) hx hb dX11_count_27 (by decide) (fun h27 => ?_) (fun h27 => ?_)
        · refine lv_aload_n hx hb dX11_count_39 rfl (lv_at hl 0 rfl) ?_
          refine va_get (D := (dC, dI)) (ci := 11) (v := .int 0) (C := RX11) (T := TX11) (N := 9) hx hb hts iX11 hown hK hP 0 rfl rfl 8 (by decide) (hts _ (bP 388 rfl)) (fun _ h9 => h9) (kJ_at hJ 0 rfl) dX11_count_40 ?_
          refine lv_if_ne (tgt := 48) hx hb dX11_count_43 (by decide) (fun h => absurd h (by decide)) (fun _ => ?_)
          refine lv_iconst (v := 0) hx hb dX11_count_46 (by decide) ?_
          exact W.iret (v := 0) hx hb hr (fun t ht hW => ⟨⟨0, (), rfl, by first | exact cnt1 h1 | exact cnt4 h7 | exact cnt5 h1 h7, trivial⟩, hS.F ht⟩) hS.2.2 dX11_count_47
        · refine lv_aload_n hx hb dX11_count_30 rfl (lv_at hl 0 rfl) ?_
          refine va_get (D := (dC, dI)) (ci := 11) (v := .ref qm) (C := RX11) (T := TX11) (N := 9) hx hb hts iX11 hown hK hP 0 rfl rfl 7 (by decide) (hts _ (bP 387 rfl)) (fun _ h9 => h9) (kJ_at hJ 1 rfl) dX11_count_31 ?_
          refine lv_iload_n hx hb dX11_count_34 rfl (lv_at hl 1 rfl) ?_
          have hPc := hP.sub (ws' := [(qm, .inr (3, fm))]) [2] rfl
          have hDc := hD.sub (ws' := [(qm, .inr (3, fm))]) [2] (by decide) rfl
          have hKc := hK.sub (tys' := []) [] rfl
          have hFc := va_free (wc := [(qm, .inr (3, fm))]) hD hS hA [2] rfl
          refine va_calli (va_runV (As := [.int a1]) (rest := []) ⟨hx, hb, hml, hown, hts⟩ (c_Machine_tally l dC dI qm H.size fm a1) (cwV 1 hts (gV (y := yX3_tally) _ 418 419 420 384 395 rfl rfl rfl rfl rfl) rfl rfl rfl (by decide +kernel) ⟨Nat.le_of_ble_eq_true rfl, Nat.le_of_ble_eq_true rfl⟩) ⟨fun a U g mk q => by obtain ⟨q0, q1, qJ, qP, qK, qD⟩ := q; exact ⟨q0, q1, qJ, qP, va_K.moved (u := U) (U := U.calling g mk a) (Vm.Alike.refl U.vm) qK, qD⟩, va_recv hKc hPc (ci := 3) (q0 := 0) rfl rfl, fun U hU hW => ⟨rfl, by rw [hU], hM, by rw [hU]; exact hPc, va_K.moved hW.alike hKc, hDc.weaken (fun _ _ _ _ => trivial)⟩⟩ rfl rfl hl.1 rfl (lv_room (Nat.le_of_ble_eq_true rfl)) dX11_count_35 ⟨Nat.le_of_ble_eq_true rfl, Nat.le_of_ble_eq_true rfl⟩) hS (fun q _ h => hFc q h) hFc (fun r u t H1 locs ht hvm hw hB hz1 hk1 hS => ?_)
          subst hw
          exact W.iret (v := 0) hx hb hr (fun t ht hW => ⟨⟨0, (), rfl, by first | exact cnt1 h1 | exact cnt4 h7 | exact cnt5 h1 h7, trivial⟩, hS.F ht⟩) hS.2.2 dX11_count_38
      · refine lv_aload_n hx hb dX11_count_17 rfl (lv_at hl 0 rfl) ?_
        refine va_get (D := (dC, dI)) (ci := 11) (v := .ref qt) (C := RX11) (T := TX11) (N := 9) hx hb hts iX11 hown hK hP 0 rfl rfl 0 (by decide) (hts _ (bP 345 rfl)) (fun _ h9 => h9) (kJ_at hJ 2 rfl) dX11_count_18 ?_
        refine va_get (D := (dC, dI)) (ci := 7) (v := .int 0) (C := RX7) (T := TX7) (N := 19) hx hb hts iX7 hown hK hP 1 rfl rfl 1 (by decide) (hts _ (bP 421 rfl)) (fun _ h9 => h9) (kJ_at hT 0 rfl) dX11_count_21 ?_
        exact W.iret (v := 0) hx hb hr (fun t ht hW => ⟨⟨0, (), rfl, by first | exact cnt1 h1 | exact cnt4 h7 | exact cnt5 h1 h7, trivial⟩, hS.F ht⟩) hS.2.2 dX11_count_24
    · refine lv_iconst (v := (-1)) hx hb dX11_count_10 (by decide) ?_
      exact W.iret (v := (-1)) hx hb hr (fun t ht hW => ⟨⟨(-1), (), rfl, by first | exact cnt1 h1 | exact cnt4 h7 | exact cnt5 h1 h7, trivial⟩, hS.F ht⟩) hS.2.2 dX11_count_11
set_option maxHeartbeats 4000000 in
set_option maxRecDepth 100000 in
/-- c_MeetingHouse_back -/
theorem c_MeetingHouse_back (l : Launch) (dC : Nat → ClassId) (dI : Nat → Nat → Nat) (h0 sz : Nat) (fx ft : List Value) (qt : Nat) (a1 : Int32) : Met l yX11_back (.code yX11_back cX11_back 2 (some .int) :: wP) ({ frames := 0, cells := 0, slots := 0, locals := 0 }) (va_Pc [.ref h0, .int a1] (fun U => U.heap.size = sz ∧ kJ 9 [(0, .ref qt)] fx ∧ kJ 19 [(1, .int 0)] ft ∧ va_P (dC, dI) vwCl [(h0, .inr (11, fx)), (qt, .inr (7, ft))] U.heap ∧ va_K (dC, dI) vwCl [] U ∧ va_D (fun _ => True) [(h0, .inr (11, fx)), (qt, .inr (7, ft))])) (va_Qi (fun r (_ : Unit) => r = bk a1) (fun (_ : Unit) (_ : State) => True) (va_A [(h0, .inr (11, fx)), (qt, .inr (7, ft))] sz)) 0 0 (va_A [(h0, .inr (11, fx)), (qt, .inr (7, ft))] sz) := by
  refine Met.ofW (cc := cX11_back) (maxL := 2) (ret := (some .int)) (by decide) rfl ?_
  intro p e s m args below meth c s₁ B hml hv
  obtain ⟨rfl, hsz, hJ, hT, hP, hK, hD0⟩ := hv
  have hx := B.exec
  have hb := B.bytes
  have hr := B.returns
  have hts := atoms_spec (ws := .code yX11_back cX11_back 2 (some .int) :: wP) B.pre
  have hown : s.vm.findClass RX11 = some m.cls := findClass_of_methodNamed B.named
  subst hsz
  have hD := hD0.self (sz := s.heap.size)
  generalize hAe : va_A [(h0, .inr (11, fx)), (qt, .inr (7, ft))] s.heap.size = A at hD ⊢
  have hA : ∀ q : Nat, s.heap.size ≤ q → A q := fun q h => by rw [← hAe]; exact Or.inr h
  have hS : va_S A s.heap s.heap [] := va_S.rf
  have hl := lv_entry ([.ref h0, .int a1]) (n := 2) (Nat.le_of_ble_eq_true rfl)
  rw [lg_entry_eq]
  generalize (lg_sl ([.ref h0, .int a1]) ++ List.replicate (2 - (lg_sl ([.ref h0, .int a1])).length) Slot.unset).toArray = ls at hl ⊢
  obtain ⟨H, hHe⟩ : ∃ H, H = s.heap := ⟨_, rfl⟩
  rw [← hHe] at hP ⊢
  have hS : va_S A s.heap H [] := by rw [hHe]; exact hS
  have hl : lv_has ls 2 [(0, .ref h0), (1, .int a1)] := hl
  refine lv_iload_n hx hb dX11_back_0 rfl (lv_at hl 1 rfl) ?_
  refine lv_if_lt (tgt := 15) hx hb dX11_back_1 (by decide) (fun h1 => ?_) (fun h1 => ?_)
  · refine lv_iconst (v := (-1)) hx hb dX11_back_15 (by decide) ?_
    exact W.iret (v := (-1)) hx hb hr (fun t ht hW => ⟨⟨(-1), (), rfl, by first | exact bk1 h1 | exact bk2 h1 h12 ez1 | exact bk3 h12, trivial⟩, hS.F ht⟩) hS.2.2 dX11_back_16
  · refine lv_iload_n hx hb dX11_back_4 rfl (lv_at hl 1 rfl) ?_
    refine lv_aload_n hx hb dX11_back_5 rfl (lv_at hl 0 rfl) ?_
    refine va_get (D := (dC, dI)) (ci := 11) (v := .ref qt) (C := RX11) (T := TX11) (N := 9) hx hb hts iX11 hown hK hP 0 rfl rfl 0 (by decide) (hts _ (bP 345 rfl)) (fun _ h9 => h9) (kJ_at hJ 0 rfl) dX11_back_6 ?_
    refine va_get (D := (dC, dI)) (ci := 7) (v := .int 0) (C := RX7) (T := TX7) (N := 19) hx hb hts iX7 hown hK hP 1 rfl rfl 1 (by decide) (hts _ (bP 421 rfl)) (fun _ h9 => h9) (kJ_at hT 0 rfl) dX11_back_9 ?_
    refine lv_icmp_le (tgt := 17) hx hb dX11_back_12 (by decide) (fun h12 => ?_) (fun h12 => ?_)
    · refine lv_aload_n hx hb dX11_back_17 rfl (lv_at hl 0 rfl) ?_
      refine va_get (D := (dC, dI)) (ci := 11) (v := .ref qt) (C := RX11) (T := TX11) (N := 9) hx hb hts iX11 hown hK hP 0 rfl rfl 0 (by decide) (hts _ (bP 345 rfl)) (fun _ h9 => h9) (kJ_at hJ 0 rfl) dX11_back_18 ?_
      refine lv_dup hx hb dX11_back_21 rfl ?_
      refine va_get (D := (dC, dI)) (ci := 7) (v := .int 0) (C := RX7) (T := TX7) (N := 19) hx hb hts iX7 hown hK hP 1 rfl rfl 1 (by decide) (hts _ (bP 421 rfl)) (fun _ h9 => h9) (kJ_at hT 0 rfl) dX11_back_22 ?_
      refine lv_iload_n hx hb dX11_back_25 rfl (lv_at hl 1 rfl) ?_
      refine lv_isub hx hb dX11_back_26 ?_
      refine lv_topi (fun z1 ez1 => ?_)
      refine kq_put [(1, .int z1)] hts iX7 tyX7 tyX7_ok nmX7 hx hb hown hK hP hD hS 1 rfl rfl hT 1 (by decide) (by decide) (hts _ (bP 421 rfl)) rfl (ty := .int) (by decide +kernel) (v := .int z1) rfl rfl dX11_back_27 (fun f h => kJ_put h _ _ (by decide)) (fun H locs ft hT hP hD hS => ?_)
      have hP : va_P (dC, dI) vwCl [(h0, .inr (11, fx)), (qt, .inr (7, ft))] H := hP
      have hD : va_D A [(h0, .inr (11, fx)), (qt, .inr (7, ft))] := hD
      refine lv_aload_n hx hb dX11_back_30 rfl (lv_at hl 0 rfl) ?_
      refine va_get (D := (dC, dI)) (ci := 11) (v := .ref qt) (C := RX11) (T := TX11) (N := 9) hx hb hts iX11 hown hK hP 0 rfl rfl 0 (by decide) (hts _ (bP 345 rfl)) (fun _ h9 => h9) (kJ_at hJ 0 rfl) dX11_back_31 ?_
      refine va_get (D := (dC, dI)) (ci := 7) (v := .int z1) (C := RX7) (T := TX7) (N := 19) hx hb hts iX7 hown hK hP 1 rfl rfl 1 (by decide) (hts _ (bP 421 rfl)) (fun _ h9 => h9) (kJ_at hT 0 rfl) dX11_back_34 ?_
      exact W.iret (v := z1) hx hb hr (fun t ht hW => ⟨⟨z1, (), rfl, by first | exact bk1 h1 | exact bk2 h1 h12 ez1 | exact bk3 h12, trivial⟩, hS.F ht⟩) hS.2.2 dX11_back_37
    · refine lv_iconst (v := (-1)) hx hb dX11_back_15 (by decide) ?_
      exact W.iret (v := (-1)) hx hb hr (fun t ht hW => ⟨⟨(-1), (), rfl, by first | exact bk1 h1 | exact bk2 h1 h12 ez1 | exact bk3 h12, trivial⟩, hS.F ht⟩) hS.2.2 dX11_back_16
set_option maxHeartbeats 4000000 in
set_option maxRecDepth 100000 in
/-- c_Text_append -/
theorem c_Text_append (l : Launch) (dC : Nat → ClassId) (dI : Nat → Nat → Nat) (h0 sz : Nat) (ft : List Value) (qa : Nat) (ca : ClassId) (f : Nat → Int32) (n : Nat) (a1 : Int32) : Met l yX7_append (.code yX7_append cX7_append 3 none :: wP) ({ frames := 0, cells := 0, slots := 0, locals := 0 }) (va_Pc [.ref h0, .int a1] (fun U => U.heap.size = sz ∧ kJ 19 [(0, .ref qa), (1, .int (nI n))] ft ∧ n + 4 ≤ 6000 ∧ va_P (dC, dI) vwCl [(h0, .inr (7, ft)), (qa, .inl (ca, 6000, .inl f))] U.heap ∧ va_K (dC, dI) vwCl [(ca, .byte)] U ∧ va_D (fun _ => True) [(h0, .inr (7, ft)), (qa, .inl (ca, 6000, .inl f))])) (va_Qv (fun u : List Value × (Nat → Int32) => kJ 19 [(1, .int (nI (n + 4))), (0, .ref qa)] u.1) (fun (u : List Value × (Nat → Int32)) (t : State) => va_P (dC, dI) vwCl [(h0, .inr (7, u.1)), (qa, .inl (ca, 6000, .inl u.2))] t.heap ∧ va_K (dC, dI) vwCl [(ca, .byte)] t ∧ va_D (va_A [(h0, .inr (7, ft)), (qa, .inl (ca, 6000, .inl f))] sz) [(h0, .inr (7, u.1)), (qa, .inl (ca, 6000, .inl u.2))]) (va_A [(h0, .inr (7, ft)), (qa, .inl (ca, 6000, .inl f))] sz)) 0 0 (va_A [(h0, .inr (7, ft)), (qa, .inl (ca, 6000, .inl f))] sz) := by
  refine Met.ofW (cc := cX7_append) (maxL := 3) (ret := none) (by decide) rfl ?_
  intro p e s m args below meth c s₁ B hml hv
  obtain ⟨rfl, hsz, hT, hn, hP, hK, hD0⟩ := hv
  have hx := B.exec
  have hb := B.bytes
  have hr := B.returns
  have hts := atoms_spec (ws := .code yX7_append cX7_append 3 none :: wP) B.pre
  have hown : s.vm.findClass RX7 = some m.cls := findClass_of_methodNamed B.named
  subst hsz
  have hD := hD0.self (sz := s.heap.size)
  generalize hAe : va_A [(h0, .inr (7, ft)), (qa, .inl (ca, 6000, .inl f))] s.heap.size = A at hD ⊢
  have hA : ∀ q : Nat, s.heap.size ≤ q → A q := fun q h => by rw [← hAe]; exact Or.inr h
  have hS : va_S A s.heap s.heap [] := va_S.rf
  have hl := lv_entry ([.ref h0, .int a1]) (n := 3) (Nat.le_of_ble_eq_true rfl)
  rw [lg_entry_eq]
  generalize (lg_sl ([.ref h0, .int a1]) ++ List.replicate (3 - (lg_sl ([.ref h0, .int a1])).length) Slot.unset).toArray = ls at hl ⊢
  obtain ⟨H, hHe⟩ : ∃ H, H = s.heap := ⟨_, rfl⟩
  rw [← hHe] at hP ⊢
  have hS : va_S A s.heap H [] := by rw [hHe]; exact hS
  have hl : lv_has ls 3 [(0, .ref h0), (1, .int a1)] := hl
  refine lv_bipush (v := 24) hx hb dX7_append_0 (by decide) ?_
  refine lv_istore_n (lv' := [(2, .int 24), (0, .ref h0), (1, .int a1)]) hx hb dX7_append_2 rfl hl (by decide) rfl (fun ls hl => ?_)
  refine lv_iload_n hx hb dX7_append_3 rfl (lv_at hl 0 rfl) ?_
  refine lv_if_lt (tgt := 46) hx hb dX7_append_4 (by decide) (fun h => absurd h (by decide)) (fun _ => ?_)
  refine lv_aload_n hx hb dX7_append_7 rfl (lv_at hl 1 rfl) ?_
  refine va_get (D := (dC, dI)) (ci := 7) (v := .int (nI (n))) (C := RX7) (T := TX7) (N := 19) hx hb hts iX7 hown hK hP 0 rfl rfl 1 (by decide) (hts _ (bP 424 rfl)) (fun _ h9 => h9) (kJ_at hT 1 rfl) dX7_append_8 ?_
  refine lv_sipush (v := 6000) hx hb dX7_append_11 (by decide) ?_
  refine lv_icmp_ge (tgt := 40) hx hb dX7_append_14 (by decide) (fun h => absurd h (nI_ge (b := 6000) (by omega) (by decide))) (fun _ => ?_)
  refine lv_aload_n hx hb dX7_append_17 rfl (lv_at hl 1 rfl) ?_
  refine va_get (D := (dC, dI)) (ci := 7) (v := .ref qa) (C := RX7) (T := TX7) (N := 19) hx hb hts iX7 hown hK hP 0 rfl rfl 0 (by decide) (hts _ (bP 294 rfl)) (fun _ h9 => h9) (kJ_at hT 0 rfl) dX7_append_18 ?_
  refine lv_aload_n hx hb dX7_append_21 rfl (lv_at hl 1 rfl) ?_
  refine va_get (D := (dC, dI)) (ci := 7) (v := .int (nI (n))) (C := RX7) (T := TX7) (N := 19) hx hb hts iX7 hown hK hP 0 rfl rfl 1 (by decide) (hts _ (bP 424 rfl)) (fun _ h9 => h9) (kJ_at hT 1 rfl) dX7_append_22 ?_
  refine lv_iload_n hx hb dX7_append_25 rfl (lv_at hl 2 rfl) ?_
  refine lv_iload_n hx hb dX7_append_26 rfl (lv_at hl 0 rfl) ?_
  refine lv_iushr hx hb dX7_append_27 rfl ?_
  refine lv_topi (fun z1 ez1 => ?_)
  refine lv_i2b hx hb dX7_append_28 rfl ?_
  refine lv_topi (fun z2 ez2 => ?_)
  refine kq_bast hx hb hK hP hD hS 1 0 rfl rfl (vp_in_nI (by omega) (by decide)) dX7_append_29 (fun H locs f ef hP hD hS => ?_)
  have hP : va_P (dC, dI) vwCl [(h0, .inr (7, ft)), (qa, .inl (ca, 6000, .inl f))] H := hP
  have hD : va_D A [(h0, .inr (7, ft)), (qa, .inl (ca, 6000, .inl f))] := hD
  clear ez1 ez2 ef
  refine lv_aload_n hx hb dX7_append_30 rfl (lv_at hl 1 rfl) ?_
  refine lv_dup hx hb dX7_append_31 rfl ?_
  refine va_get (D := (dC, dI)) (ci := 7) (v := .int (nI (n))) (C := RX7) (T := TX7) (N := 19) hx hb hts iX7 hown hK hP 0 rfl rfl 1 (by decide) (hts _ (bP 424 rfl)) (fun _ h9 => h9) (kJ_at hT 1 rfl) dX7_append_32 ?_
  refine lv_iconst (v := 1) hx hb dX7_append_35 (by decide) ?_
  refine lv_iadd hx hb dX7_append_36 ?_
  refine k_i (v := nI (n + 1)) (nI_1 _) ?_
  refine kq_put [(1, .int (nI (n + 1))), (0, .ref qa)] hts iX7 tyX7 tyX7_ok nmX7 hx hb hown hK hP hD hS 0 rfl rfl hT 1 (by decide) (by decide) (hts _ (bP 424 rfl)) rfl (ty := .int) (by decide +kernel) (v := .int (nI (n + 1))) rfl rfl dX7_append_37 (fun f h => kJ_put h _ _ (by decide)) (fun H locs ft hT hP hD hS => ?_)
  have hP : va_P (dC, dI) vwCl [(h0, .inr (7, ft)), (qa, .inl (ca, 6000, .inl f))] H := hP
  have hD : va_D A [(h0, .inr (7, ft)), (qa, .inl (ca, 6000, .inl f))] := hD
  refine lv_iinc (v := 16) (lv' := [(2, .int 16), (0, .ref h0), (1, .int a1)]) hx hb dX7_append_40 hl (k := 0) rfl (by decide) (by decide) rfl (fun ls hl => ?_)
  refine lv_goto (tgt := 3) hx hb dX7_append_43 (by decide) ?_
  refine lv_iload_n hx hb dX7_append_3 rfl (lv_at hl 0 rfl) ?_
  refine lv_if_lt (tgt := 46) hx hb dX7_append_4 (by decide) (fun h => absurd h (by decide)) (fun _ => ?_)
  refine lv_aload_n hx hb dX7_append_7 rfl (lv_at hl 1 rfl) ?_
  refine va_get (D := (dC, dI)) (ci := 7) (v := .int (nI (n + 1))) (C := RX7) (T := TX7) (N := 19) hx hb hts iX7 hown hK hP 0 rfl rfl 1 (by decide) (hts _ (bP 424 rfl)) (fun _ h9 => h9) (kJ_at hT 0 rfl) dX7_append_8 ?_
  refine lv_sipush (v := 6000) hx hb dX7_append_11 (by decide) ?_
  refine lv_icmp_ge (tgt := 40) hx hb dX7_append_14 (by decide) (fun h => absurd h (nI_ge (b := 6000) (by omega) (by decide))) (fun _ => ?_)
  refine lv_aload_n hx hb dX7_append_17 rfl (lv_at hl 1 rfl) ?_
  refine va_get (D := (dC, dI)) (ci := 7) (v := .ref qa) (C := RX7) (T := TX7) (N := 19) hx hb hts iX7 hown hK hP 0 rfl rfl 0 (by decide) (hts _ (bP 294 rfl)) (fun _ h9 => h9) (kJ_at hT 1 rfl) dX7_append_18 ?_
  refine lv_aload_n hx hb dX7_append_21 rfl (lv_at hl 1 rfl) ?_
  refine va_get (D := (dC, dI)) (ci := 7) (v := .int (nI (n + 1))) (C := RX7) (T := TX7) (N := 19) hx hb hts iX7 hown hK hP 0 rfl rfl 1 (by decide) (hts _ (bP 424 rfl)) (fun _ h9 => h9) (kJ_at hT 0 rfl) dX7_append_22 ?_
  refine lv_iload_n hx hb dX7_append_25 rfl (lv_at hl 2 rfl) ?_
  refine lv_iload_n hx hb dX7_append_26 rfl (lv_at hl 0 rfl) ?_
  refine lv_iushr hx hb dX7_append_27 rfl ?_
  refine lv_topi (fun z1 ez1 => ?_)
  refine lv_i2b hx hb dX7_append_28 rfl ?_
  refine lv_topi (fun z2 ez2 => ?_)
  refine kq_bast hx hb hK hP hD hS 1 0 rfl rfl (vp_in_nI (by omega) (by decide)) dX7_append_29 (fun H locs f ef hP hD hS => ?_)
  have hP : va_P (dC, dI) vwCl [(h0, .inr (7, ft)), (qa, .inl (ca, 6000, .inl f))] H := hP
  have hD : va_D A [(h0, .inr (7, ft)), (qa, .inl (ca, 6000, .inl f))] := hD
  clear ez1 ez2 ef
  refine lv_aload_n hx hb dX7_append_30 rfl (lv_at hl 1 rfl) ?_
  refine lv_dup hx hb dX7_append_31 rfl ?_
  refine va_get (D := (dC, dI)) (ci := 7) (v := .int (nI (n + 1))) (C := RX7) (T := TX7) (N := 19) hx hb hts iX7 hown hK hP 0 rfl rfl 1 (by decide) (hts _ (bP 424 rfl)) (fun _ h9 => h9) (kJ_at hT 0 rfl) dX7_append_32 ?_
  refine lv_iconst (v := 1) hx hb dX7_append_35 (by decide) ?_
  refine lv_iadd hx hb dX7_append_36 ?_
  refine k_i (v := nI (n + 2)) (nI_1 _) ?_
  refine kq_put [(1, .int (nI (n + 2))), (0, .ref qa)] hts iX7 tyX7 tyX7_ok nmX7 hx hb hown hK hP hD hS 0 rfl rfl hT 1 (by decide) (by decide) (hts _ (bP 424 rfl)) rfl (ty := .int) (by decide +kernel) (v := .int (nI (n + 2))) rfl rfl dX7_append_37 (fun f h => kJ_put h _ _ (by decide)) (fun H locs ft hT hP hD hS => ?_)
  have hP : va_P (dC, dI) vwCl [(h0, .inr (7, ft)), (qa, .inl (ca, 6000, .inl f))] H := hP
  have hD : va_D A [(h0, .inr (7, ft)), (qa, .inl (ca, 6000, .inl f))] := hD
  refine lv_iinc (v := 8) (lv' := [(2, .int 8), (0, .ref h0), (1, .int a1)]) hx hb dX7_append_40 hl (k := 0) rfl (by decide) (by decide) rfl (fun ls hl => ?_)
  refine lv_goto (tgt := 3) hx hb dX7_append_43 (by decide) ?_
  refine lv_iload_n hx hb dX7_append_3 rfl (lv_at hl 0 rfl) ?_
  refine lv_if_lt (tgt := 46) hx hb dX7_append_4 (by decide) (fun h => absurd h (by decide)) (fun _ => ?_)
  refine lv_aload_n hx hb dX7_append_7 rfl (lv_at hl 1 rfl) ?_
  refine va_get (D := (dC, dI)) (ci := 7) (v := .int (nI (n + 2))) (C := RX7) (T := TX7) (N := 19) hx hb hts iX7 hown hK hP 0 rfl rfl 1 (by decide) (hts _ (bP 424 rfl)) (fun _ h9 => h9) (kJ_at hT 0 rfl) dX7_append_8 ?_
  refine lv_sipush (v := 6000) hx hb dX7_append_11 (by decide) ?_
  refine lv_icmp_ge (tgt := 40) hx hb dX7_append_14 (by decide) (fun h => absurd h (nI_ge (b := 6000) (by omega) (by decide))) (fun _ => ?_)
  refine lv_aload_n hx hb dX7_append_17 rfl (lv_at hl 1 rfl) ?_
  refine va_get (D := (dC, dI)) (ci := 7) (v := .ref qa) (C := RX7) (T := TX7) (N := 19) hx hb hts iX7 hown hK hP 0 rfl rfl 0 (by decide) (hts _ (bP 294 rfl)) (fun _ h9 => h9) (kJ_at hT 1 rfl) dX7_append_18 ?_
  refine lv_aload_n hx hb dX7_append_21 rfl (lv_at hl 1 rfl) ?_
  refine va_get (D := (dC, dI)) (ci := 7) (v := .int (nI (n + 2))) (C := RX7) (T := TX7) (N := 19) hx hb hts iX7 hown hK hP 0 rfl rfl 1 (by decide) (hts _ (bP 424 rfl)) (fun _ h9 => h9) (kJ_at hT 0 rfl) dX7_append_22 ?_
  refine lv_iload_n hx hb dX7_append_25 rfl (lv_at hl 2 rfl) ?_
  refine lv_iload_n hx hb dX7_append_26 rfl (lv_at hl 0 rfl) ?_
  refine lv_iushr hx hb dX7_append_27 rfl ?_
  refine lv_topi (fun z1 ez1 => ?_)
  refine lv_i2b hx hb dX7_append_28 rfl ?_
  refine lv_topi (fun z2 ez2 => ?_)
  refine kq_bast hx hb hK hP hD hS 1 0 rfl rfl (vp_in_nI (by omega) (by decide)) dX7_append_29 (fun H locs f ef hP hD hS => ?_)
  have hP : va_P (dC, dI) vwCl [(h0, .inr (7, ft)), (qa, .inl (ca, 6000, .inl f))] H := hP
  have hD : va_D A [(h0, .inr (7, ft)), (qa, .inl (ca, 6000, .inl f))] := hD
  clear ez1 ez2 ef
  refine lv_aload_n hx hb dX7_append_30 rfl (lv_at hl 1 rfl) ?_
  refine lv_dup hx hb dX7_append_31 rfl ?_
  refine va_get (D := (dC, dI)) (ci := 7) (v := .int (nI (n + 2))) (C := RX7) (T := TX7) (N := 19) hx hb hts iX7 hown hK hP 0 rfl rfl 1 (by decide) (hts _ (bP 424 rfl)) (fun _ h9 => h9) (kJ_at hT 0 rfl) dX7_append_32 ?_
  refine lv_iconst (v := 1) hx hb dX7_append_35 (by decide) ?_
  refine lv_iadd hx hb dX7_append_36 ?_
  refine k_i (v := nI (n + 3)) (nI_1 _) ?_
  refine kq_put [(1, .int (nI (n + 3))), (0, .ref qa)] hts iX7 tyX7 tyX7_ok nmX7 hx hb hown hK hP hD hS 0 rfl rfl hT 1 (by decide) (by decide) (hts _ (bP 424 rfl)) rfl (ty := .int) (by decide +kernel) (v := .int (nI (n + 3))) rfl rfl dX7_append_37 (fun f h => kJ_put h _ _ (by decide)) (fun H locs ft hT hP hD hS => ?_)
  have hP : va_P (dC, dI) vwCl [(h0, .inr (7, ft)), (qa, .inl (ca, 6000, .inl f))] H := hP
  have hD : va_D A [(h0, .inr (7, ft)), (qa, .inl (ca, 6000, .inl f))] := hD
  refine lv_iinc (v := 0) (lv' := [(2, .int 0), (0, .ref h0), (1, .int a1)]) hx hb dX7_append_40 hl (k := 0) rfl (by decide) (by decide) rfl (fun ls hl => ?_)
  refine lv_goto (tgt := 3) hx hb dX7_append_43 (by decide) ?_
  refine lv_iload_n hx hb dX7_append_3 rfl (lv_at hl 0 rfl) ?_
  refine lv_if_lt (tgt := 46) hx hb dX7_append_4 (by decide) (fun h => absurd h (by decide)) (fun _ => ?_)
  refine lv_aload_n hx hb dX7_append_7 rfl (lv_at hl 1 rfl) ?_
  refine va_get (D := (dC, dI)) (ci := 7) (v := .int (nI (n + 3))) (C := RX7) (T := TX7) (N := 19) hx hb hts iX7 hown hK hP 0 rfl rfl 1 (by decide) (hts _ (bP 424 rfl)) (fun _ h9 => h9) (kJ_at hT 0 rfl) dX7_append_8 ?_
  refine lv_sipush (v := 6000) hx hb dX7_append_11 (by decide) ?_
  refine lv_icmp_ge (tgt := 40) hx hb dX7_append_14 (by decide) (fun h => absurd h (nI_ge (b := 6000) (by omega) (by decide))) (fun _ => ?_)
  refine lv_aload_n hx hb dX7_append_17 rfl (lv_at hl 1 rfl) ?_
  refine va_get (D := (dC, dI)) (ci := 7) (v := .ref qa) (C := RX7) (T := TX7) (N := 19) hx hb hts iX7 hown hK hP 0 rfl rfl 0 (by decide) (hts _ (bP 294 rfl)) (fun _ h9 => h9) (kJ_at hT 1 rfl) dX7_append_18 ?_
  refine lv_aload_n hx hb dX7_append_21 rfl (lv_at hl 1 rfl) ?_
  refine va_get (D := (dC, dI)) (ci := 7) (v := .int (nI (n + 3))) (C := RX7) (T := TX7) (N := 19) hx hb hts iX7 hown hK hP 0 rfl rfl 1 (by decide) (hts _ (bP 424 rfl)) (fun _ h9 => h9) (kJ_at hT 0 rfl) dX7_append_22 ?_
  refine lv_iload_n hx hb dX7_append_25 rfl (lv_at hl 2 rfl) ?_
  refine lv_iload_n hx hb dX7_append_26 rfl (lv_at hl 0 rfl) ?_
  refine lv_iushr hx hb dX7_append_27 rfl ?_
  refine lv_topi (fun z1 ez1 => ?_)
  refine lv_i2b hx hb dX7_append_28 rfl ?_
  refine lv_topi (fun z2 ez2 => ?_)
  refine kq_bast hx hb hK hP hD hS 1 0 rfl rfl (vp_in_nI (by omega) (by decide)) dX7_append_29 (fun H locs f ef hP hD hS => ?_)
  have hP : va_P (dC, dI) vwCl [(h0, .inr (7, ft)), (qa, .inl (ca, 6000, .inl f))] H := hP
  have hD : va_D A [(h0, .inr (7, ft)), (qa, .inl (ca, 6000, .inl f))] := hD
  clear ez1 ez2 ef
  refine lv_aload_n hx hb dX7_append_30 rfl (lv_at hl 1 rfl) ?_
  refine lv_dup hx hb dX7_append_31 rfl ?_
  refine va_get (D := (dC, dI)) (ci := 7) (v := .int (nI (n + 3))) (C := RX7) (T := TX7) (N := 19) hx hb hts iX7 hown hK hP 0 rfl rfl 1 (by decide) (hts _ (bP 424 rfl)) (fun _ h9 => h9) (kJ_at hT 0 rfl) dX7_append_32 ?_
  refine lv_iconst (v := 1) hx hb dX7_append_35 (by decide) ?_
  refine lv_iadd hx hb dX7_append_36 ?_
  refine k_i (v := nI (n + 4)) (nI_1 _) ?_
  refine kq_put [(1, .int (nI (n + 4))), (0, .ref qa)] hts iX7 tyX7 tyX7_ok nmX7 hx hb hown hK hP hD hS 0 rfl rfl hT 1 (by decide) (by decide) (hts _ (bP 424 rfl)) rfl (ty := .int) (by decide +kernel) (v := .int (nI (n + 4))) rfl rfl dX7_append_37 (fun f h => kJ_put h _ _ (by decide)) (fun H locs ft hT hP hD hS => ?_)
  have hP : va_P (dC, dI) vwCl [(h0, .inr (7, ft)), (qa, .inl (ca, 6000, .inl f))] H := hP
  have hD : va_D A [(h0, .inr (7, ft)), (qa, .inl (ca, 6000, .inl f))] := hD
  refine lv_iinc (v := (-8)) (lv' := [(2, .int (-8)), (0, .ref h0), (1, .int a1)]) hx hb dX7_append_40 hl (k := 0) rfl (by decide) (by decide) rfl (fun ls hl => ?_)
  refine lv_goto (tgt := 3) hx hb dX7_append_43 (by decide) ?_
  refine lv_iload_n hx hb dX7_append_3 rfl (lv_at hl 0 rfl) ?_
  refine lv_if_lt (tgt := 46) hx hb dX7_append_4 (by decide) (fun _ => ?_) (fun h => absurd (by decide) h)
  exact W.vret hx hb hr (fun t ht hW => ⟨⟨(ft, f), rfl, hT, by rw [ht]; exact hP, va_K.moved hW.alike hK, hD⟩, hS.F ht⟩) hS.2.2 dX7_append_46
set_option maxHeartbeats 4000000 in
set_option maxRecDepth 100000 in
/-- c_MeetingHouse_feed -/
theorem c_MeetingHouse_feed (l : Launch) (dC : Nat → ClassId) (dI : Nat → Nat → Nat) (h0 sz : Nat) (fx ft : List Value) (qt qa : Nat) (ca : ClassId) (f : Nat → Int32) (a1 a2 a3 a4 a5 : Int32) : Met l yX11_feed (.code yX11_feed cX11_feed 6 (some .int) :: wP) ({ frames := 1, cells := 0, slots := 0, locals := 26 }) (va_Pc [.ref h0, .int a1, .int a2, .int a3, .int a4, .int a5] (fun U => U.heap.size = sz ∧ kJ 9 [(0, .ref qt)] fx ∧ kJ 19 [(0, .ref qa), (1, .int 0)] ft ∧ va_P (dC, dI) vwCl [(h0, .inr (11, fx)), (qt, .inr (7, ft)), (qa, .inl (ca, 6000, .inl f))] U.heap ∧ va_K (dC, dI) vwCl [(ca, .byte)] U ∧ va_D (fun _ => True) [(h0, .inr (11, fx)), (qt, .inr (7, ft)), (qa, .inl (ca, 6000, .inl f))])) (va_Qi (fun r (_ : Unit) => r = 20) (fun (_ : Unit) (_ : State) => True) (va_A [(h0, .inr (11, fx)), (qt, .inr (7, ft)), (qa, .inl (ca, 6000, .inl f))] sz)) 0 0 (va_A [(h0, .inr (11, fx)), (qt, .inr (7, ft)), (qa, .inl (ca, 6000, .inl f))] sz) := by
  refine Met.ofW (cc := cX11_feed) (maxL := 6) (ret := (some .int)) (by decide) rfl ?_
  intro p e s m args below meth c s₁ B hml hv
  obtain ⟨rfl, hsz, hJ, hT, hP, hK, hD0⟩ := hv
  have hx := B.exec
  have hb := B.bytes
  have hr := B.returns
  have hts := atoms_spec (ws := .code yX11_feed cX11_feed 6 (some .int) :: wP) B.pre
  have hown : s.vm.findClass RX11 = some m.cls := findClass_of_methodNamed B.named
  subst hsz
  have hD := hD0.self (sz := s.heap.size)
  generalize hAe : va_A [(h0, .inr (11, fx)), (qt, .inr (7, ft)), (qa, .inl (ca, 6000, .inl f))] s.heap.size = A at hD ⊢
  have hA : ∀ q : Nat, s.heap.size ≤ q → A q := fun q h => by rw [← hAe]; exact Or.inr h
  have hS : va_S A s.heap s.heap [] := va_S.rf
  have hl := lv_entry ([.ref h0, .int a1, .int a2, .int a3, .int a4, .int a5]) (n := 6) (Nat.le_of_ble_eq_true rfl)
  rw [lg_entry_eq]
  generalize (lg_sl ([.ref h0, .int a1, .int a2, .int a3, .int a4, .int a5]) ++ List.replicate (6 - (lg_sl ([.ref h0, .int a1, .int a2, .int a3, .int a4, .int a5])).length) Slot.unset).toArray = ls at hl ⊢
  obtain ⟨H, hHe⟩ : ∃ H, H = s.heap := ⟨_, rfl⟩
  rw [← hHe] at hP ⊢
  have hS : va_S A s.heap H [] := by rw [hHe]; exact hS
  have hl : lv_has ls 6 [(0, .ref h0), (1, .int a1), (2, .int a2), (3, .int a3), (4, .int a4), (5, .int a5)] := hl
  refine lv_aload_n hx hb dX11_feed_0 rfl (lv_at hl 0 rfl) ?_
  refine va_get (D := (dC, dI)) (ci := 11) (v := .ref qt) (C := RX11) (T := TX11) (N := 9) hx hb hts iX11 hown hK hP 0 rfl rfl 0 (by decide) (hts _ (bP 345 rfl)) (fun _ h9 => h9) (kJ_at hJ 0 rfl) dX11_feed_1 ?_
  refine va_get (D := (dC, dI)) (ci := 7) (v := .int 0) (C := RX7) (T := TX7) (N := 19) hx hb hts iX7 hown hK hP 1 rfl rfl 1 (by decide) (hts _ (bP 421 rfl)) (fun _ h9 => h9) (kJ_at hT 1 rfl) dX11_feed_4 ?_
  refine lv_bipush (v := 20) hx hb dX11_feed_7 (by decide) ?_
  refine lv_iadd hx hb dX11_feed_9 ?_
  refine k_i (v := 20) (by decide) ?_
  refine lv_sipush (v := 6000) hx hb dX11_feed_10 (by decide) ?_
  refine lv_icmp_le (tgt := 18) hx hb dX11_feed_13 (by decide) (fun _ => ?_) (fun h => absurd h (by decide))
  refine lv_aload_n hx hb dX11_feed_18 rfl (lv_at hl 0 rfl) ?_
  refine va_get (D := (dC, dI)) (ci := 11) (v := .ref qt) (C := RX11) (T := TX11) (N := 9) hx hb hts iX11 hown hK hP 0 rfl rfl 0 (by decide) (hts _ (bP 345 rfl)) (fun _ h9 => h9) (kJ_at hJ 0 rfl) dX11_feed_19 ?_
  refine lv_iload_n hx hb dX11_feed_22 rfl (lv_at hl 1 rfl) ?_
  have hPc := hP.sub (ws' := [(qt, .inr (7, ft)), (qa, .inl (ca, 6000, .inl f))]) [1, 2] rfl
  have hDc := hD.sub (ws' := [(qt, .inr (7, ft)), (qa, .inl (ca, 6000, .inl f))]) [1, 2] (by decide) rfl
  have hKc := hK.sub (tys' := [(ca, .byte)]) [0] rfl
  have hFc := va_free (wc := [(qt, .inr (7, ft)), (qa, .inl (ca, 6000, .inl f))]) hD hS hA [1, 2] rfl
  refine va_callv (va_runV (As := [.int a1]) (rest := []) ⟨hx, hb, hml, hown, hts⟩ (c_Text_append l dC dI qt H.size ft qa ca f 0 a1) (cwV 1 hts (gV (y := yX7_append) _ 426 427 428 343 423 rfl rfl rfl rfl rfl) rfl rfl rfl (by decide +kernel) ⟨Nat.le_of_ble_eq_true rfl, Nat.le_of_ble_eq_true rfl⟩) ⟨fun a U g mk q => by obtain ⟨q0, q1, qJ, qn, qP, qK, qD⟩ := q; exact ⟨q0, q1, qJ, qn, qP, va_K.moved (u := U) (U := U.calling g mk a) (Vm.Alike.refl U.vm) qK, qD⟩, va_recv hKc hPc (ci := 7) (q0 := 0) rfl rfl, fun U hU hW => ⟨rfl, by rw [hU], kJ_sub hT (by simp [nI_0]), by decide, by rw [hU]; exact hPc, va_K.moved hW.alike hKc, hDc.weaken (fun _ _ _ _ => trivial)⟩⟩ rfl rfl hl.1 rfl (lv_room (Nat.le_of_ble_eq_true rfl)) dX11_feed_23 ⟨Nat.le_of_ble_eq_true rfl, Nat.le_of_ble_eq_true rfl⟩) hS (fun q _ h => hFc q h) hFc (fun u t H1 locs ht hvm hw hB hz1 hk1 hS => ?_)
  obtain ⟨ft, f⟩ := u
  have hT : kJ 19 [(1, .int (nI 4)), (0, .ref qa)] ft := hw
  clear hw
  obtain ⟨hP1, hK1, hD1⟩ := hB
  rw [ht] at hP1
  have hK1 := va_K.moved hvm.symm hK1
  obtain ⟨hP, hD⟩ := va_join (wr := [(h0, .inr (11, fx))]) (w1 := [(qt, .inr (7, ft)), (qa, .inl (ca, 6000, .inl f))]) hP hD [1, 2] [0] rfl rfl (by decide) (by decide) hk1 hFc hP1 hD1
  have hK := (hK.sub (tys' := []) [] rfl).app hK1
  clear hPc hDc hKc hFc hP1 hK1 hD1 hk1 hz1
  generalize H1 = H at hP hS ⊢
  have hP : va_P (dC, dI) vwCl [(h0, .inr (11, fx)), (qt, .inr (7, ft)), (qa, .inl (ca, 6000, .inl f))] H := hP
  have hD : va_D A [(h0, .inr (11, fx)), (qt, .inr (7, ft)), (qa, .inl (ca, 6000, .inl f))] := hD
  have hK : va_K (dC, dI) vwCl [(ca, .byte)] s := hK
  refine lv_aload_n hx hb dX11_feed_26 rfl (lv_at hl 0 rfl) ?_
  refine va_get (D := (dC, dI)) (ci := 11) (v := .ref qt) (C := RX11) (T := TX11) (N := 9) hx hb hts iX11 hown hK hP 0 rfl rfl 0 (by decide) (hts _ (bP 345 rfl)) (fun _ h9 => h9) (kJ_at hJ 0 rfl) dX11_feed_27 ?_
  refine lv_iload_n hx hb dX11_feed_30 rfl (lv_at hl 2 rfl) ?_
  have hPc := hP.sub (ws' := [(qt, .inr (7, ft)), (qa, .inl (ca, 6000, .inl f))]) [1, 2] rfl
  have hDc := hD.sub (ws' := [(qt, .inr (7, ft)), (qa, .inl (ca, 6000, .inl f))]) [1, 2] (by decide) rfl
  have hKc := hK.sub (tys' := [(ca, .byte)]) [0] rfl
  have hFc := va_free (wc := [(qt, .inr (7, ft)), (qa, .inl (ca, 6000, .inl f))]) hD hS hA [1, 2] rfl
  refine va_callv (va_runV (As := [.int a2]) (rest := []) ⟨hx, hb, hml, hown, hts⟩ (c_Text_append l dC dI qt H.size ft qa ca f 4 a2) (cwV 1 hts (gV (y := yX7_append) _ 426 427 428 343 423 rfl rfl rfl rfl rfl) rfl rfl rfl (by decide +kernel) ⟨Nat.le_of_ble_eq_true rfl, Nat.le_of_ble_eq_true rfl⟩) ⟨fun a U g mk q => by obtain ⟨q0, q1, qJ, qn, qP, qK, qD⟩ := q; exact ⟨q0, q1, qJ, qn, qP, va_K.moved (u := U) (U := U.calling g mk a) (Vm.Alike.refl U.vm) qK, qD⟩, va_recv hKc hPc (ci := 7) (q0 := 0) rfl rfl, fun U hU hW => ⟨rfl, by rw [hU], kJ_sub hT (by simp [nI_0]), by decide, by rw [hU]; exact hPc, va_K.moved hW.alike hKc, hDc.weaken (fun _ _ _ _ => trivial)⟩⟩ rfl rfl hl.1 rfl (lv_room (Nat.le_of_ble_eq_true rfl)) dX11_feed_31 ⟨Nat.le_of_ble_eq_true rfl, Nat.le_of_ble_eq_true rfl⟩) hS (fun q _ h => hFc q h) hFc (fun u t H1 locs ht hvm hw hB hz1 hk1 hS => ?_)
  obtain ⟨ft, f⟩ := u
  have hT : kJ 19 [(1, .int (nI 8)), (0, .ref qa)] ft := hw
  clear hw
  obtain ⟨hP1, hK1, hD1⟩ := hB
  rw [ht] at hP1
  have hK1 := va_K.moved hvm.symm hK1
  obtain ⟨hP, hD⟩ := va_join (wr := [(h0, .inr (11, fx))]) (w1 := [(qt, .inr (7, ft)), (qa, .inl (ca, 6000, .inl f))]) hP hD [1, 2] [0] rfl rfl (by decide) (by decide) hk1 hFc hP1 hD1
  have hK := (hK.sub (tys' := []) [] rfl).app hK1
  clear hPc hDc hKc hFc hP1 hK1 hD1 hk1 hz1
  generalize H1 = H at hP hS ⊢
  have hP : va_P (dC, dI) vwCl [(h0, .inr (11, fx)), (qt, .inr (7, ft)), (qa, .inl (ca, 6000, .inl f))] H := hP
  have hD : va_D A [(h0, .inr (11, fx)), (qt, .inr (7, ft)), (qa, .inl (ca, 6000, .inl f))] := hD
  have hK : va_K (dC, dI) vwCl [(ca, .byte)] s := hK
  refine lv_aload_n hx hb dX11_feed_34 rfl (lv_at hl 0 rfl) ?_
  refine va_get (D := (dC, dI)) (ci := 11) (v := .ref qt) (C := RX11) (T := TX11) (N := 9) hx hb hts iX11 hown hK hP 0 rfl rfl 0 (by decide) (hts _ (bP 345 rfl)) (fun _ h9 => h9) (kJ_at hJ 0 rfl) dX11_feed_35 ?_
  refine lv_iload_n hx hb dX11_feed_38 rfl (lv_at hl 3 rfl) ?_
  have hPc := hP.sub (ws' := [(qt, .inr (7, ft)), (qa, .inl (ca, 6000, .inl f))]) [1, 2] rfl
  have hDc := hD.sub (ws' := [(qt, .inr (7, ft)), (qa, .inl (ca, 6000, .inl f))]) [1, 2] (by decide) rfl
  have hKc := hK.sub (tys' := [(ca, .byte)]) [0] rfl
  have hFc := va_free (wc := [(qt, .inr (7, ft)), (qa, .inl (ca, 6000, .inl f))]) hD hS hA [1, 2] rfl
  refine va_callv (va_runV (As := [.int a3]) (rest := []) ⟨hx, hb, hml, hown, hts⟩ (c_Text_append l dC dI qt H.size ft qa ca f 8 a3) (cwV 1 hts (gV (y := yX7_append) _ 426 427 428 343 423 rfl rfl rfl rfl rfl) rfl rfl rfl (by decide +kernel) ⟨Nat.le_of_ble_eq_true rfl, Nat.le_of_ble_eq_true rfl⟩) ⟨fun a U g mk q => by obtain ⟨q0, q1, qJ, qn, qP, qK, qD⟩ := q; exact ⟨q0, q1, qJ, qn, qP, va_K.moved (u := U) (U := U.calling g mk a) (Vm.Alike.refl U.vm) qK, qD⟩, va_recv hKc hPc (ci := 7) (q0 := 0) rfl rfl, fun U hU hW => ⟨rfl, by rw [hU], kJ_sub hT (by simp [nI_0]), by decide, by rw [hU]; exact hPc, va_K.moved hW.alike hKc, hDc.weaken (fun _ _ _ _ => trivial)⟩⟩ rfl rfl hl.1 rfl (lv_room (Nat.le_of_ble_eq_true rfl)) dX11_feed_39 ⟨Nat.le_of_ble_eq_true rfl, Nat.le_of_ble_eq_true rfl⟩) hS (fun q _ h => hFc q h) hFc (fun u t H1 locs ht hvm hw hB hz1 hk1 hS => ?_)
  obtain ⟨ft, f⟩ := u
  have hT : kJ 19 [(1, .int (nI 12)), (0, .ref qa)] ft := hw
  clear hw
  obtain ⟨hP1, hK1, hD1⟩ := hB
  rw [ht] at hP1
  have hK1 := va_K.moved hvm.symm hK1
  obtain ⟨hP, hD⟩ := va_join (wr := [(h0, .inr (11, fx))]) (w1 := [(qt, .inr (7, ft)), (qa, .inl (ca, 6000, .inl f))]) hP hD [1, 2] [0] rfl rfl (by decide) (by decide) hk1 hFc hP1 hD1
  have hK := (hK.sub (tys' := []) [] rfl).app hK1
  clear hPc hDc hKc hFc hP1 hK1 hD1 hk1 hz1
  generalize H1 = H at hP hS ⊢
  have hP : va_P (dC, dI) vwCl [(h0, .inr (11, fx)), (qt, .inr (7, ft)), (qa, .inl (ca, 6000, .inl f))] H := hP
  have hD : va_D A [(h0, .inr (11, fx)), (qt, .inr (7, ft)), (qa, .inl (ca, 6000, .inl f))] := hD
  have hK : va_K (dC, dI) vwCl [(ca, .byte)] s := hK
  refine lv_aload_n hx hb dX11_feed_42 rfl (lv_at hl 0 rfl) ?_
  refine va_get (D := (dC, dI)) (ci := 11) (v := .ref qt) (C := RX11) (T := TX11) (N := 9) hx hb hts iX11 hown hK hP 0 rfl rfl 0 (by decide) (hts _ (bP 345 rfl)) (fun _ h9 => h9) (kJ_at hJ 0 rfl) dX11_feed_43 ?_
  refine lv_iload hx hb dX11_feed_46 (lv_at hl 4 rfl) ?_
  have hPc := hP.sub (ws' := [(qt, .inr (7, ft)), (qa, .inl (ca, 6000, .inl f))]) [1, 2] rfl
  have hDc := hD.sub (ws' := [(qt, .inr (7, ft)), (qa, .inl (ca, 6000, .inl f))]) [1, 2] (by decide) rfl
  have hKc := hK.sub (tys' := [(ca, .byte)]) [0] rfl
  have hFc := va_free (wc := [(qt, .inr (7, ft)), (qa, .inl (ca, 6000, .inl f))]) hD hS hA [1, 2] rfl
  refine va_callv (va_runV (As := [.int a4]) (rest := []) ⟨hx, hb, hml, hown, hts⟩ (c_Text_append l dC dI qt H.size ft qa ca f 12 a4) (cwV 1 hts (gV (y := yX7_append) _ 426 427 428 343 423 rfl rfl rfl rfl rfl) rfl rfl rfl (by decide +kernel) ⟨Nat.le_of_ble_eq_true rfl, Nat.le_of_ble_eq_true rfl⟩) ⟨fun a U g mk q => by obtain ⟨q0, q1, qJ, qn, qP, qK, qD⟩ := q; exact ⟨q0, q1, qJ, qn, qP, va_K.moved (u := U) (U := U.calling g mk a) (Vm.Alike.refl U.vm) qK, qD⟩, va_recv hKc hPc (ci := 7) (q0 := 0) rfl rfl, fun U hU hW => ⟨rfl, by rw [hU], kJ_sub hT (by simp [nI_0]), by decide, by rw [hU]; exact hPc, va_K.moved hW.alike hKc, hDc.weaken (fun _ _ _ _ => trivial)⟩⟩ rfl rfl hl.1 rfl (lv_room (Nat.le_of_ble_eq_true rfl)) dX11_feed_48 ⟨Nat.le_of_ble_eq_true rfl, Nat.le_of_ble_eq_true rfl⟩) hS (fun q _ h => hFc q h) hFc (fun u t H1 locs ht hvm hw hB hz1 hk1 hS => ?_)
  obtain ⟨ft, f⟩ := u
  have hT : kJ 19 [(1, .int (nI 16)), (0, .ref qa)] ft := hw
  clear hw
  obtain ⟨hP1, hK1, hD1⟩ := hB
  rw [ht] at hP1
  have hK1 := va_K.moved hvm.symm hK1
  obtain ⟨hP, hD⟩ := va_join (wr := [(h0, .inr (11, fx))]) (w1 := [(qt, .inr (7, ft)), (qa, .inl (ca, 6000, .inl f))]) hP hD [1, 2] [0] rfl rfl (by decide) (by decide) hk1 hFc hP1 hD1
  have hK := (hK.sub (tys' := []) [] rfl).app hK1
  clear hPc hDc hKc hFc hP1 hK1 hD1 hk1 hz1
  generalize H1 = H at hP hS ⊢
  have hP : va_P (dC, dI) vwCl [(h0, .inr (11, fx)), (qt, .inr (7, ft)), (qa, .inl (ca, 6000, .inl f))] H := hP
  have hD : va_D A [(h0, .inr (11, fx)), (qt, .inr (7, ft)), (qa, .inl (ca, 6000, .inl f))] := hD
  have hK : va_K (dC, dI) vwCl [(ca, .byte)] s := hK
  refine lv_aload_n hx hb dX11_feed_51 rfl (lv_at hl 0 rfl) ?_
  refine va_get (D := (dC, dI)) (ci := 11) (v := .ref qt) (C := RX11) (T := TX11) (N := 9) hx hb hts iX11 hown hK hP 0 rfl rfl 0 (by decide) (hts _ (bP 345 rfl)) (fun _ h9 => h9) (kJ_at hJ 0 rfl) dX11_feed_52 ?_
  refine lv_iload hx hb dX11_feed_55 (lv_at hl 5 rfl) ?_
  have hPc := hP.sub (ws' := [(qt, .inr (7, ft)), (qa, .inl (ca, 6000, .inl f))]) [1, 2] rfl
  have hDc := hD.sub (ws' := [(qt, .inr (7, ft)), (qa, .inl (ca, 6000, .inl f))]) [1, 2] (by decide) rfl
  have hKc := hK.sub (tys' := [(ca, .byte)]) [0] rfl
  have hFc := va_free (wc := [(qt, .inr (7, ft)), (qa, .inl (ca, 6000, .inl f))]) hD hS hA [1, 2] rfl
  refine va_callv (va_runV (As := [.int a5]) (rest := []) ⟨hx, hb, hml, hown, hts⟩ (c_Text_append l dC dI qt H.size ft qa ca f 16 a5) (cwV 1 hts (gV (y := yX7_append) _ 426 427 428 343 423 rfl rfl rfl rfl rfl) rfl rfl rfl (by decide +kernel) ⟨Nat.le_of_ble_eq_true rfl, Nat.le_of_ble_eq_true rfl⟩) ⟨fun a U g mk q => by obtain ⟨q0, q1, qJ, qn, qP, qK, qD⟩ := q; exact ⟨q0, q1, qJ, qn, qP, va_K.moved (u := U) (U := U.calling g mk a) (Vm.Alike.refl U.vm) qK, qD⟩, va_recv hKc hPc (ci := 7) (q0 := 0) rfl rfl, fun U hU hW => ⟨rfl, by rw [hU], kJ_sub hT (by simp [nI_0]), by decide, by rw [hU]; exact hPc, va_K.moved hW.alike hKc, hDc.weaken (fun _ _ _ _ => trivial)⟩⟩ rfl rfl hl.1 rfl (lv_room (Nat.le_of_ble_eq_true rfl)) dX11_feed_57 ⟨Nat.le_of_ble_eq_true rfl, Nat.le_of_ble_eq_true rfl⟩) hS (fun q _ h => hFc q h) hFc (fun u t H1 locs ht hvm hw hB hz1 hk1 hS => ?_)
  obtain ⟨ft, f⟩ := u
  have hT : kJ 19 [(1, .int (nI 20)), (0, .ref qa)] ft := hw
  clear hw
  obtain ⟨hP1, hK1, hD1⟩ := hB
  rw [ht] at hP1
  have hK1 := va_K.moved hvm.symm hK1
  obtain ⟨hP, hD⟩ := va_join (wr := [(h0, .inr (11, fx))]) (w1 := [(qt, .inr (7, ft)), (qa, .inl (ca, 6000, .inl f))]) hP hD [1, 2] [0] rfl rfl (by decide) (by decide) hk1 hFc hP1 hD1
  have hK := (hK.sub (tys' := []) [] rfl).app hK1
  clear hPc hDc hKc hFc hP1 hK1 hD1 hk1 hz1
  generalize H1 = H at hP hS ⊢
  have hP : va_P (dC, dI) vwCl [(h0, .inr (11, fx)), (qt, .inr (7, ft)), (qa, .inl (ca, 6000, .inl f))] H := hP
  have hD : va_D A [(h0, .inr (11, fx)), (qt, .inr (7, ft)), (qa, .inl (ca, 6000, .inl f))] := hD
  have hK : va_K (dC, dI) vwCl [(ca, .byte)] s := hK
  refine lv_aload_n hx hb dX11_feed_60 rfl (lv_at hl 0 rfl) ?_
  refine va_get (D := (dC, dI)) (ci := 11) (v := .ref qt) (C := RX11) (T := TX11) (N := 9) hx hb hts iX11 hown hK hP 0 rfl rfl 0 (by decide) (hts _ (bP 345 rfl)) (fun _ h9 => h9) (kJ_at hJ 0 rfl) dX11_feed_61 ?_
  refine va_get (D := (dC, dI)) (ci := 7) (v := .int (nI 20)) (C := RX7) (T := TX7) (N := 19) hx hb hts iX7 hown hK hP 1 rfl rfl 1 (by decide) (hts _ (bP 421 rfl)) (fun _ h9 => h9) (kJ_at hT 0 rfl) dX11_feed_64 ?_
  exact W.iret (v := nI 20) hx hb hr (fun t ht hW => ⟨⟨nI 20, (), rfl, rfl, trivial⟩, hS.F ht⟩) hS.2.2 dX11_feed_67
end
