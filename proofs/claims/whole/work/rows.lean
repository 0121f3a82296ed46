section
def RX0 : String := "MeetingHouse$Coder"
def TX0 : u_T := fun k => match k with
  | 0 => ("MeetingHouse$Coder", "code", "[I", true)
  | 1 => ("MeetingHouse$Coder", "size", "I", false)
  | 2 => ("MeetingHouse$Coder", "slots", "I", false)
  | 3 => ("MeetingHouse$Coder", "topSlots", "[I", true)
  | 4 => ("MeetingHouse$Coder", "topCells", "[I", true)
  | 5 => ("MeetingHouse$Coder", "tops", "I", false)
  | 6 => ("MeetingHouse$Coder", "tree", "LMeetingHouse$Tree;", true)
  | _ => ("MeetingHouse$Coder", "names", "LMeetingHouse$Names;", true)
def tyX0 : Nat → FieldType := fun k => match k with
  | 0 => .array .int
  | 1 => .int
  | 2 => .int
  | 3 => .array .int
  | 4 => .array .int
  | 5 => .int
  | 6 => .object "MeetingHouse$Tree"
  | _ => .object "MeetingHouse$Names"
abbrev wsX00 : List Cond := u_ws RX0 TX0 8
theorem nmX0 : ∀ a, a < 8 → ∀ b, b < 8 → a ≠ b → (TX0 a).2.1 ≠ (TX0 b).2.1 := by decide +kernel
theorem tyX0_ok : ∀ k, k < 8 → parseFieldDescriptor (TX0 k).2.2.1 = some (tyX0 k) := by decide +kernel
def RX1 : String := "MeetingHouse$Hall"
def TX1 : u_T := fun k => match k with
  | 0 => ("MeetingHouse$Hall", "procs", "[LMeetingHouse$Proc;", true)
  | 1 => ("MeetingHouse$Hall", "order", "[I", true)
  | 2 => ("MeetingHouse$Hall", "live", "I", false)
  | 3 => ("MeetingHouse$Hall", "made", "I", false)
  | 4 => ("MeetingHouse$Hall", "clock", "I", false)
  | 5 => ("MeetingHouse$Hall", "steps", "I", false)
  | 6 => ("MeetingHouse$Hall", "seed", "I", false)
  | 7 => ("MeetingHouse$Hall", "shown", "[B", true)
  | 8 => ("MeetingHouse$Hall", "shownCount", "I", false)
  | 9 => ("MeetingHouse$Hall", "keys", "[I", true)
  | 10 => ("MeetingHouse$Hall", "keyFrom", "I", false)
  | 11 => ("MeetingHouse$Hall", "keyCount", "I", false)
  | 12 => ("MeetingHouse$Hall", "message", "[I", true)
  | 13 => ("MeetingHouse$Hall", "messageSize", "I", false)
  | 14 => ("MeetingHouse$Hall", "facts", "[I", true)
  | _ => ("MeetingHouse$Hall", "meetings", "I", false)
def tyX1 : Nat → FieldType := fun k => match k with
  | 0 => .array (.object "MeetingHouse$Proc")
  | 1 => .array .int
  | 2 => .int
  | 3 => .int
  | 4 => .int
  | 5 => .int
  | 6 => .int
  | 7 => .array .byte
  | 8 => .int
  | 9 => .array .int
  | 10 => .int
  | 11 => .int
  | 12 => .array .int
  | 13 => .int
  | 14 => .array .int
  | _ => .int
abbrev wsX10 : List Cond := u_ws RX1 TX1 16
theorem nmX1 : ∀ a, a < 16 → ∀ b, b < 16 → a ≠ b → (TX1 a).2.1 ≠ (TX1 b).2.1 := by decide +kernel
theorem tyX1_ok : ∀ k, k < 16 → parseFieldDescriptor (TX1 k).2.2.1 = some (tyX1 k) := by decide +kernel
def RX2 : String := "MeetingHouse$Heap"
def TX2 : u_T := fun k => match k with
  | 0 => ("MeetingHouse$Heap", "taken", "I", false)
  | 1 => ("MeetingHouse$Heap", "cells", "[I", false)
  | 2 => ("MeetingHouse$Heap", "start", "[I", false)
  | 3 => ("MeetingHouse$Heap", "length", "[I", false)
  | 4 => ("MeetingHouse$Heap", "line", "[I", false)
  | 5 => ("MeetingHouse$Heap", "each", "[I", false)
  | 6 => ("MeetingHouse$Heap", "before", "[I", false)
  | 7 => ("MeetingHouse$Heap", "after", "[I", false)
  | 8 => ("MeetingHouse$Heap", "handles", "I", false)
  | 9 => ("MeetingHouse$Heap", "unused", "I", false)
  | 10 => ("MeetingHouse$Heap", "first", "I", false)
  | 11 => ("MeetingHouse$Heap", "last", "I", false)
  | _ => ("MeetingHouse$Heap", "top", "I", false)
def tyX2 : Nat → FieldType := fun k => match k with
  | 0 => .int
  | 1 => .array .int
  | 2 => .array .int
  | 3 => .array .int
  | 4 => .array .int
  | 5 => .array .int
  | 6 => .array .int
  | 7 => .array .int
  | 8 => .int
  | 9 => .int
  | 10 => .int
  | 11 => .int
  | _ => .int
abbrev wsX20 : List Cond := u_ws RX2 TX2 13
theorem nmX2 : ∀ a, a < 13 → ∀ b, b < 13 → a ≠ b → (TX2 a).2.1 ≠ (TX2 b).2.1 := by decide +kernel
theorem tyX2_ok : ∀ k, k < 13 → parseFieldDescriptor (TX2 k).2.2.1 = some (tyX2 k) := by decide +kernel
def RX3 : String := "MeetingHouse$Machine"
def TX3 : u_T := fun k => match k with
  | 0 => ("MeetingHouse$Machine", "begun", "Z", false)
  | 1 => ("MeetingHouse$Machine", "ended", "Z", false)
  | 2 => ("MeetingHouse$Machine", "coder", "LMeetingHouse$Coder;", true)
  | 3 => ("MeetingHouse$Machine", "text", "LMeetingHouse$Text;", true)
  | 4 => ("MeetingHouse$Machine", "heap", "LMeetingHouse$Heap;", true)
  | 5 => ("MeetingHouse$Machine", "hall", "LMeetingHouse$Hall;", true)
  | 6 => ("MeetingHouse$Machine", "rows", "[I", false)
  | 7 => ("MeetingHouse$Machine", "width", "I", false)
  | 8 => ("MeetingHouse$Machine", "stack", "[I", true)
  | 9 => ("MeetingHouse$Machine", "top", "I", false)
  | 10 => ("MeetingHouse$Machine", "current", "LMeetingHouse$Proc;", false)
  | 11 => ("MeetingHouse$Machine", "partner", "LMeetingHouse$Proc;", false)
  | 12 => ("MeetingHouse$Machine", "handing", "Z", false)
  | 13 => ("MeetingHouse$Machine", "going", "Z", false)
  | 14 => ("MeetingHouse$Machine", "mayAct", "Z", false)
  | 15 => ("MeetingHouse$Machine", "doing", "I", false)
  | 16 => ("MeetingHouse$Machine", "functions", "I", false)
  | 17 => ("MeetingHouse$Machine", "called", "I", false)
  | 18 => ("MeetingHouse$Machine", "refs", "[I", true)
  | 19 => ("MeetingHouse$Machine", "sizes", "[I", true)
  | _ => ("MeetingHouse$Machine", "scratch", "[I", true)
def tyX3 : Nat → FieldType := fun k => match k with
  | 0 => .boolean
  | 1 => .boolean
  | 2 => .object "MeetingHouse$Coder"
  | 3 => .object "MeetingHouse$Text"
  | 4 => .object "MeetingHouse$Heap"
  | 5 => .object "MeetingHouse$Hall"
  | 6 => .array .int
  | 7 => .int
  | 8 => .array .int
  | 9 => .int
  | 10 => .object "MeetingHouse$Proc"
  | 11 => .object "MeetingHouse$Proc"
  | 12 => .boolean
  | 13 => .boolean
  | 14 => .boolean
  | 15 => .int
  | 16 => .int
  | 17 => .int
  | 18 => .array .int
  | 19 => .array .int
  | _ => .array .int
abbrev wsX30 : List Cond := u_ws RX3 TX3 21
theorem nmX3 : ∀ a, a < 21 → ∀ b, b < 21 → a ≠ b → (TX3 a).2.1 ≠ (TX3 b).2.1 := by decide +kernel
theorem tyX3_ok : ∀ k, k < 21 → parseFieldDescriptor (TX3 k).2.2.1 = some (tyX3 k) := by decide +kernel
def RX4 : String := "MeetingHouse$Names"
def TX4 : u_T := fun k => match k with
  | 0 => ("MeetingHouse$Names", "kind", "[I", true)
  | 1 => ("MeetingHouse$Names", "spec", "[I", true)
  | 2 => ("MeetingHouse$Names", "number", "[I", true)
  | 3 => ("MeetingHouse$Names", "of", "[I", true)
  | 4 => ("MeetingHouse$Names", "node", "[I", true)
  | 5 => ("MeetingHouse$Names", "flags", "[I", true)
  | 6 => ("MeetingHouse$Names", "slot", "[I", true)
  | 7 => ("MeetingHouse$Names", "symbols", "I", false)
  | 8 => ("MeetingHouse$Names", "tree", "LMeetingHouse$Tree;", true)
  | 9 => ("MeetingHouse$Names", "title", "[I", true)
  | 10 => ("MeetingHouse$Names", "before", "[I", true)
  | 11 => ("MeetingHouse$Names", "latest", "[I", true)
  | 12 => ("MeetingHouse$Names", "stamps", "[I", true)
  | 13 => ("MeetingHouse$Names", "visible", "[I", true)
  | 14 => ("MeetingHouse$Names", "seen", "I", false)
  | _ => ("MeetingHouse$Names", "stamp", "I", false)
def tyX4 : Nat → FieldType := fun k => match k with
  | 0 => .array .int
  | 1 => .array .int
  | 2 => .array .int
  | 3 => .array .int
  | 4 => .array .int
  | 5 => .array .int
  | 6 => .array .int
  | 7 => .int
  | 8 => .object "MeetingHouse$Tree"
  | 9 => .array .int
  | 10 => .array .int
  | 11 => .array .int
  | 12 => .array .int
  | 13 => .array .int
  | 14 => .int
  | _ => .int
abbrev wsX40 : List Cond := u_ws RX4 TX4 16
theorem nmX4 : ∀ a, a < 16 → ∀ b, b < 16 → a ≠ b → (TX4 a).2.1 ≠ (TX4 b).2.1 := by decide +kernel
theorem tyX4_ok : ∀ k, k < 16 → parseFieldDescriptor (TX4 k).2.2.1 = some (tyX4 k) := by decide +kernel
def RX5 : String := "MeetingHouse$Proc"
def TX5 : u_T := fun k => match k with
  | 0 => ("MeetingHouse$Proc", "row", "I", true)
  | 1 => ("MeetingHouse$Proc", "number", "I", false)
  | 2 => ("MeetingHouse$Proc", "state", "I", false)
  | 3 => ("MeetingHouse$Proc", "pc", "I", false)
  | 4 => ("MeetingHouse$Proc", "line", "I", false)
  | 5 => ("MeetingHouse$Proc", "fault", "I", false)
  | 6 => ("MeetingHouse$Proc", "parent", "I", false)
  | 7 => ("MeetingHouse$Proc", "pending", "I", false)
  | 8 => ("MeetingHouse$Proc", "calls", "I", false)
  | 9 => ("MeetingHouse$Proc", "channel", "I", false)
  | 10 => ("MeetingHouse$Proc", "wake", "I", false)
  | 11 => ("MeetingHouse$Proc", "held", "[I", false)
  | 12 => ("MeetingHouse$Proc", "heldCount", "I", false)
  | 13 => ("MeetingHouse$Proc", "timed", "Z", false)
  | 14 => ("MeetingHouse$Proc", "keyed", "Z", false)
  | 15 => ("MeetingHouse$Proc", "places", "[I", true)
  | _ => ("MeetingHouse$Proc", "placeCount", "I", false)
def tyX5 : Nat → FieldType := fun k => match k with
  | 0 => .int
  | 1 => .int
  | 2 => .int
  | 3 => .int
  | 4 => .int
  | 5 => .int
  | 6 => .int
  | 7 => .int
  | 8 => .int
  | 9 => .int
  | 10 => .int
  | 11 => .array .int
  | 12 => .int
  | 13 => .boolean
  | 14 => .boolean
  | 15 => .array .int
  | _ => .int
abbrev wsX50 : List Cond := u_ws RX5 TX5 17
theorem nmX5 : ∀ a, a < 17 → ∀ b, b < 17 → a ≠ b → (TX5 a).2.1 ≠ (TX5 b).2.1 := by decide +kernel
theorem tyX5_ok : ∀ k, k < 17 → parseFieldDescriptor (TX5 k).2.2.1 = some (tyX5 k) := by decide +kernel
def RX6 : String := "MeetingHouse$Sides"
def TX6 : u_T := fun k => match k with
  | 0 => ("MeetingHouse$Sides", "tree", "LMeetingHouse$Tree;", true)
  | 1 => ("MeetingHouse$Sides", "names", "LMeetingHouse$Names;", true)
  | 2 => ("MeetingHouse$Sides", "bound", "[J", true)
  | 3 => ("MeetingHouse$Sides", "marks", "[I", true)
  | 4 => ("MeetingHouse$Sides", "mark", "I", false)
  | 5 => ("MeetingHouse$Sides", "replicators", "[I", true)
  | 6 => ("MeetingHouse$Sides", "replicatorCount", "I", false)
  | 7 => ("MeetingHouse$Sides", "values", "[I", true)
  | 8 => ("MeetingHouse$Sides", "valueCount", "I", false)
  | 9 => ("MeetingHouse$Sides", "pair", "[I", true)
  | 10 => ("MeetingHouse$Sides", "kept", "[I", true)
  | 11 => ("MeetingHouse$Sides", "ahead", "[I", true)
  | 12 => ("MeetingHouse$Sides", "rowOf", "[I", true)
  | 13 => ("MeetingHouse$Sides", "rowMark", "[I", true)
  | 14 => ("MeetingHouse$Sides", "rows", "I", false)
  | 15 => ("MeetingHouse$Sides", "parMark", "I", false)
  | _ => ("MeetingHouse$Sides", "own", "I", false)
def tyX6 : Nat → FieldType := fun k => match k with
  | 0 => .object "MeetingHouse$Tree"
  | 1 => .object "MeetingHouse$Names"
  | 2 => .array .long
  | 3 => .array .int
  | 4 => .int
  | 5 => .array .int
  | 6 => .int
  | 7 => .array .int
  | 8 => .int
  | 9 => .array .int
  | 10 => .array .int
  | 11 => .array .int
  | 12 => .array .int
  | 13 => .array .int
  | 14 => .int
  | 15 => .int
  | _ => .int
abbrev wsX60 : List Cond := u_ws RX6 TX6 17
theorem nmX6 : ∀ a, a < 17 → ∀ b, b < 17 → a ≠ b → (TX6 a).2.1 ≠ (TX6 b).2.1 := by decide +kernel
theorem tyX6_ok : ∀ k, k < 17 → parseFieldDescriptor (TX6 k).2.2.1 = some (tyX6 k) := by decide +kernel
def RX7 : String := "MeetingHouse$Text"
def TX7 : u_T := fun k => match k with
  | 0 => ("MeetingHouse$Text", "tape", "[B", true)
  | 1 => ("MeetingHouse$Text", "length", "I", false)
  | 2 => ("MeetingHouse$Text", "kind", "[I", true)
  | 3 => ("MeetingHouse$Text", "value", "[I", true)
  | 4 => ("MeetingHouse$Text", "line", "[I", true)
  | 5 => ("MeetingHouse$Text", "blanks", "[I", true)
  | 6 => ("MeetingHouse$Text", "tokens", "I", false)
  | 7 => ("MeetingHouse$Text", "lines", "I", false)
  | 8 => ("MeetingHouse$Text", "signs", "[I", true)
  | 9 => ("MeetingHouse$Text", "signsUsed", "I", false)
  | 10 => ("MeetingHouse$Text", "put", "I", false)
  | 11 => ("MeetingHouse$Text", "at", "I", false)
  | 12 => ("MeetingHouse$Text", "row", "I", false)
  | 13 => ("MeetingHouse$Text", "meant", "I", false)
  | 14 => ("MeetingHouse$Text", "letters", "[B", true)
  | 15 => ("MeetingHouse$Text", "nameFrom", "[I", true)
  | 16 => ("MeetingHouse$Text", "nameNext", "[I", true)
  | 17 => ("MeetingHouse$Text", "bucket", "[I", true)
  | _ => ("MeetingHouse$Text", "names", "I", false)
def tyX7 : Nat → FieldType := fun k => match k with
  | 0 => .array .byte
  | 1 => .int
  | 2 => .array .int
  | 3 => .array .int
  | 4 => .array .int
  | 5 => .array .int
  | 6 => .int
  | 7 => .int
  | 8 => .array .int
  | 9 => .int
  | 10 => .int
  | 11 => .int
  | 12 => .int
  | 13 => .int
  | 14 => .array .byte
  | 15 => .array .int
  | 16 => .array .int
  | 17 => .array .int
  | _ => .int
abbrev wsX70 : List Cond := u_ws RX7 TX7 19
theorem nmX7 : ∀ a, a < 19 → ∀ b, b < 19 → a ≠ b → (TX7 a).2.1 ≠ (TX7 b).2.1 := by decide +kernel
theorem tyX7_ok : ∀ k, k < 19 → parseFieldDescriptor (TX7 k).2.2.1 = some (tyX7 k) := by decide +kernel
def RX8 : String := "MeetingHouse$Tree"
def TX8 : u_T := fun k => match k with
  | 0 => ("MeetingHouse$Tree", "kind", "[I", true)
  | 1 => ("MeetingHouse$Tree", "line", "[I", true)
  | 2 => ("MeetingHouse$Tree", "a", "[I", true)
  | 3 => ("MeetingHouse$Tree", "b", "[I", true)
  | 4 => ("MeetingHouse$Tree", "c", "[I", true)
  | 5 => ("MeetingHouse$Tree", "next", "[I", true)
  | 6 => ("MeetingHouse$Tree", "val", "[I", true)
  | 7 => ("MeetingHouse$Tree", "sym", "[I", true)
  | 8 => ("MeetingHouse$Tree", "type", "[I", true)
  | 9 => ("MeetingHouse$Tree", "worth", "[I", true)
  | 10 => ("MeetingHouse$Tree", "root", "I", false)
  | 11 => ("MeetingHouse$Tree", "fault", "I", false)
  | 12 => ("MeetingHouse$Tree", "text", "LMeetingHouse$Text;", true)
  | 13 => ("MeetingHouse$Tree", "nodes", "I", false)
  | 14 => ("MeetingHouse$Tree", "at", "I", false)
  | 15 => ("MeetingHouse$Tree", "open", "I", false)
  | _ => ("MeetingHouse$Tree", "kindNode", "I", false)
def tyX8 : Nat → FieldType := fun k => match k with
  | 0 => .array .int
  | 1 => .array .int
  | 2 => .array .int
  | 3 => .array .int
  | 4 => .array .int
  | 5 => .array .int
  | 6 => .array .int
  | 7 => .array .int
  | 8 => .array .int
  | 9 => .array .int
  | 10 => .int
  | 11 => .int
  | 12 => .object "MeetingHouse$Text"
  | 13 => .int
  | 14 => .int
  | 15 => .int
  | _ => .int
abbrev wsX80 : List Cond := u_ws RX8 TX8 17
theorem nmX8 : ∀ a, a < 17 → ∀ b, b < 17 → a ≠ b → (TX8 a).2.1 ≠ (TX8 b).2.1 := by decide +kernel
theorem tyX8_ok : ∀ k, k < 17 → parseFieldDescriptor (TX8 k).2.2.1 = some (tyX8 k) := by decide +kernel
def RX9 : String := "MeetingHouse$Types"
def TX9 : u_T := fun k => match k with
  | 0 => ("MeetingHouse$Types", "told", "I", false)
  | 1 => ("MeetingHouse$Types", "tree", "LMeetingHouse$Tree;", true)
  | 2 => ("MeetingHouse$Types", "names", "LMeetingHouse$Names;", true)
  | 3 => ("MeetingHouse$Types", "marks", "[I", true)
  | 4 => ("MeetingHouse$Types", "mark", "I", false)
  | _ => ("MeetingHouse$Types", "cells", "I", false)
def tyX9 : Nat → FieldType := fun k => match k with
  | 0 => .int
  | 1 => .object "MeetingHouse$Tree"
  | 2 => .object "MeetingHouse$Names"
  | 3 => .array .int
  | 4 => .int
  | _ => .int
abbrev wsX90 : List Cond := u_ws RX9 TX9 6
theorem nmX9 : ∀ a, a < 6 → ∀ b, b < 6 → a ≠ b → (TX9 a).2.1 ≠ (TX9 b).2.1 := by decide +kernel
theorem tyX9_ok : ∀ k, k < 6 → parseFieldDescriptor (TX9 k).2.2.1 = some (tyX9 k) := by decide +kernel
def RX10 : String := "MeetingHouse$Uses"
def TX10 : u_T := fun k => match k with
  | 0 => ("MeetingHouse$Uses", "line", "[I", true)
  | 1 => ("MeetingHouse$Uses", "root", "[I", true)
  | 2 => ("MeetingHouse$Uses", "index", "[I", true)
  | 3 => ("MeetingHouse$Uses", "flags", "[I", true)
  | 4 => ("MeetingHouse$Uses", "outside", "[I", true)
  | 5 => ("MeetingHouse$Uses", "outsideFrom", "[I", true)
  | 6 => ("MeetingHouse$Uses", "outsideTo", "[I", true)
  | 7 => ("MeetingHouse$Uses", "pars", "[I", true)
  | 8 => ("MeetingHouse$Uses", "parCount", "I", false)
  | 9 => ("MeetingHouse$Uses", "tree", "LMeetingHouse$Tree;", true)
  | 10 => ("MeetingHouse$Uses", "names", "LMeetingHouse$Names;", true)
  | 11 => ("MeetingHouse$Uses", "sides", "LMeetingHouse$Sides;", true)
  | 12 => ("MeetingHouse$Uses", "gathered", "[I", true)
  | 13 => ("MeetingHouse$Uses", "touched", "[I", true)
  | 14 => ("MeetingHouse$Uses", "uses", "I", false)
  | 15 => ("MeetingHouse$Uses", "outsides", "I", false)
  | 16 => ("MeetingHouse$Uses", "functionFrom", "I", false)
  | 17 => ("MeetingHouse$Uses", "acting", "Z", false)
  | _ => ("MeetingHouse$Uses", "weight", "J", false)
def tyX10 : Nat → FieldType := fun k => match k with
  | 0 => .array .int
  | 1 => .array .int
  | 2 => .array .int
  | 3 => .array .int
  | 4 => .array .int
  | 5 => .array .int
  | 6 => .array .int
  | 7 => .array .int
  | 8 => .int
  | 9 => .object "MeetingHouse$Tree"
  | 10 => .object "MeetingHouse$Names"
  | 11 => .object "MeetingHouse$Sides"
  | 12 => .array .int
  | 13 => .array .int
  | 14 => .int
  | 15 => .int
  | 16 => .int
  | 17 => .boolean
  | _ => .long
abbrev wsX100 : List Cond := u_ws RX10 TX10 19
theorem nmX10 : ∀ a, a < 19 → ∀ b, b < 19 → a ≠ b → (TX10 a).2.1 ≠ (TX10 b).2.1 := by decide +kernel
theorem tyX10_ok : ∀ k, k < 19 → parseFieldDescriptor (TX10 k).2.2.1 = some (tyX10 k) := by decide +kernel
def RX11 : String := "MeetingHouse"
def TX11 : u_T := fun k => match k with
  | 0 => ("MeetingHouse", "text", "LMeetingHouse$Text;", true)
  | 1 => ("MeetingHouse", "tree", "LMeetingHouse$Tree;", true)
  | 2 => ("MeetingHouse", "names", "LMeetingHouse$Names;", true)
  | 3 => ("MeetingHouse", "types", "LMeetingHouse$Types;", true)
  | 4 => ("MeetingHouse", "sides", "LMeetingHouse$Sides;", true)
  | 5 => ("MeetingHouse", "uses", "LMeetingHouse$Uses;", true)
  | 6 => ("MeetingHouse", "coder", "LMeetingHouse$Coder;", true)
  | 7 => ("MeetingHouse", "machine", "LMeetingHouse$Machine;", true)
  | _ => ("MeetingHouse", "hasProgram", "Z", false)
def tyX11 : Nat → FieldType := fun k => match k with
  | 0 => .object "MeetingHouse$Text"
  | 1 => .object "MeetingHouse$Tree"
  | 2 => .object "MeetingHouse$Names"
  | 3 => .object "MeetingHouse$Types"
  | 4 => .object "MeetingHouse$Sides"
  | 5 => .object "MeetingHouse$Uses"
  | 6 => .object "MeetingHouse$Coder"
  | 7 => .object "MeetingHouse$Machine"
  | _ => .boolean
abbrev wsX110 : List Cond := u_ws RX11 TX11 9
theorem nmX11 : ∀ a, a < 9 → ∀ b, b < 9 → a ≠ b → (TX11 a).2.1 ≠ (TX11 b).2.1 := by decide +kernel
theorem tyX11_ok : ∀ k, k < 9 → parseFieldDescriptor (TX11 k).2.2.1 = some (tyX11 k) := by decide +kernel
def RX12 : String := "MeetingHouseModel$Halt"
def TX12 : u_T := fun k => match k with
  | 0 => ("java/lang/Throwable", "cause", "Ljava/lang/Throwable;", false)
  | 1 => ("java/lang/Throwable", "stackTrace", "[Ljava/lang/StackTraceElement;", false)
  | 2 => ("java/lang/Throwable", "suppressedExceptions", "Ljava/util/List;", false)
  | 3 => ("java/lang/Throwable", "detailMessage", "Ljava/lang/String;", false)
  | 4 => ("java/lang/Throwable", "backtrace", "Ljava/lang/Object;", false)
  | _ => ("java/lang/Throwable", "depth", "I", false)
def tyX12 : Nat → FieldType := fun k => match k with
  | 0 => .object "java/lang/Throwable"
  | 1 => .array (.object "java/lang/StackTraceElement")
  | 2 => .object "java/util/List"
  | 3 => .object "java/lang/String"
  | 4 => .object "java/lang/Object"
  | _ => .int
abbrev wsX120 : List Cond := u_ws RX12 TX12 6
theorem nmX12 : ∀ a, a < 6 → ∀ b, b < 6 → a ≠ b → (TX12 a).2.1 ≠ (TX12 b).2.1 := by decide +kernel
theorem tyX12_ok : ∀ k, k < 6 → parseFieldDescriptor (TX12 k).2.2.1 = some (tyX12 k) := by decide +kernel
abbrev cX12_init : ByteArray := prog_15_method_1_code
def yX12_init : MethodName := ⟨RX12, "<init>", "()V"⟩
def RX13 : String := "MeetingHouseModel"
def TX13 : u_T := fun k => match k with
  | 0 => ("MeetingHouseModel", "halt", "LMeetingHouseModel$Halt;", true)
  | 1 => ("MeetingHouseModel", "thrown", "I", false)
  | 2 => ("MeetingHouseModel", "tape", "[I", true)
  | 3 => ("MeetingHouseModel", "taped", "I", false)
  | 4 => ("MeetingHouseModel", "words", "[Ljava/lang/String;", true)
  | 5 => ("MeetingHouseModel", "signs", "[Ljava/lang/String;", true)
  | 6 => ("MeetingHouseModel", "tokens", "I", false)
  | 7 => ("MeetingHouseModel", "tKind", "[I", true)
  | 8 => ("MeetingHouseModel", "tValue", "[I", true)
  | 9 => ("MeetingHouseModel", "tLine", "[I", true)
  | 10 => ("MeetingHouseModel", "tBlanks", "[I", true)
  | 11 => ("MeetingHouseModel", "realTokens", "I", false)
  | 12 => ("MeetingHouseModel", "realLines", "I", false)
  | 13 => ("MeetingHouseModel", "names", "I", false)
  | 14 => ("MeetingHouseModel", "nameAt", "[I", true)
  | 15 => ("MeetingHouseModel", "nameSize", "[I", true)
  | 16 => ("MeetingHouseModel", "nameText", "[I", true)
  | 17 => ("MeetingHouseModel", "nameEnd", "I", false)
  | 18 => ("MeetingHouseModel", "strings", "I", false)
  | 19 => ("MeetingHouseModel", "stringAt", "[I", true)
  | 20 => ("MeetingHouseModel", "stringSize", "[I", true)
  | 21 => ("MeetingHouseModel", "stringText", "[I", true)
  | 22 => ("MeetingHouseModel", "stringEnd", "I", false)
  | 23 => ("MeetingHouseModel", "at", "I", false)
  | 24 => ("MeetingHouseModel", "value", "I", false)
  | 25 => ("MeetingHouseModel", "nodes", "I", false)
  | 26 => ("MeetingHouseModel", "kind", "[I", true)
  | 27 => ("MeetingHouseModel", "line", "[I", true)
  | 28 => ("MeetingHouseModel", "a", "[I", true)
  | 29 => ("MeetingHouseModel", "b", "[I", true)
  | 30 => ("MeetingHouseModel", "c", "[I", true)
  | 31 => ("MeetingHouseModel", "sym", "[I", true)
  | 32 => ("MeetingHouseModel", "next", "[I", true)
  | 33 => ("MeetingHouseModel", "type", "[I", true)
  | 34 => ("MeetingHouseModel", "spec", "[I", true)
  | 35 => ("MeetingHouseModel", "t", "I", false)
  | 36 => ("MeetingHouseModel", "fault", "I", false)
  | 37 => ("MeetingHouseModel", "faultLine", "I", false)
  | 38 => ("MeetingHouseModel", "open", "I", false)
  | 39 => ("MeetingHouseModel", "first", "I", false)
  | 40 => ("MeetingHouseModel", "last", "I", false)
  | 41 => ("MeetingHouseModel", "result", "[I", true)
  | 42 => ("MeetingHouseModel", "inner", "[I", true)
  | 43 => ("MeetingHouseModel", "program", "I", false)
  | 44 => ("MeetingHouseModel", "symbols", "I", false)
  | 45 => ("MeetingHouseModel", "sName", "[I", true)
  | 46 => ("MeetingHouseModel", "sKind", "[I", true)
  | 47 => ("MeetingHouseModel", "sType", "[I", true)
  | 48 => ("MeetingHouseModel", "sMany", "[I", true)
  | 49 => ("MeetingHouseModel", "sNode", "[I", true)
  | 50 => ("MeetingHouseModel", "sLine", "[I", true)
  | 51 => ("MeetingHouseModel", "sUnit", "[I", true)
  | 52 => ("MeetingHouseModel", "sSlot", "[I", true)
  | 53 => ("MeetingHouseModel", "sFormal", "[Z", true)
  | 54 => ("MeetingHouseModel", "sOf", "[I", true)
  | 55 => ("MeetingHouseModel", "sE", "[I", true)
  | 56 => ("MeetingHouseModel", "known", "I", false)
  | 57 => ("MeetingHouseModel", "knownSymbol", "[I", true)
  | 58 => ("MeetingHouseModel", "declared", "I", false)
  | 59 => ("MeetingHouseModel", "units", "I", false)
  | 60 => ("MeetingHouseModel", "unitAround", "[I", true)
  | 61 => ("MeetingHouseModel", "unitSlots", "[I", true)
  | 62 => ("MeetingHouseModel", "unit", "I", false)
  | 63 => ("MeetingHouseModel", "unitOf", "[I", true)
  | 64 => ("MeetingHouseModel", "worst", "I", false)
  | 65 => ("MeetingHouseModel", "worstLine", "I", false)
  | 66 => ("MeetingHouseModel", "symbolsFrom", "[I", true)
  | 67 => ("MeetingHouseModel", "ownFrom", "[I", true)
  | 68 => ("MeetingHouseModel", "sConstant", "[Z", true)
  | 69 => ("MeetingHouseModel", "sValue", "[I", true)
  | 70 => ("MeetingHouseModel", "tried", "[I", true)
  | 71 => ("MeetingHouseModel", "isTried", "[Z", true)
  | 72 => ("MeetingHouseModel", "failed", "I", false)
  | 73 => ("MeetingHouseModel", "many", "I", false)
  | 74 => ("MeetingHouseModel", "staticCells", "I", false)
  | 75 => ("MeetingHouseModel", "told", "I", false)
  | 76 => ("MeetingHouseModel", "weightOf", "[J", true)
  | 77 => ("MeetingHouseModel", "baseOf", "[I", true)
  | 78 => ("MeetingHouseModel", "countOf", "[I", true)
  | 79 => ("MeetingHouseModel", "weight", "J", false)
  | 80 => ("MeetingHouseModel", "effects", "I", false)
  | 81 => ("MeetingHouseModel", "effectOf", "[I", false)
  | 82 => ("MeetingHouseModel", "effectHow", "[I", false)
  | 83 => ("MeetingHouseModel", "effectFrom", "[I", true)
  | 84 => ("MeetingHouseModel", "effectTo", "[I", true)
  | 85 => ("MeetingHouseModel", "hasTalk", "[Z", true)
  | 86 => ("MeetingHouseModel", "gathered", "I", false)
  | 87 => ("MeetingHouseModel", "outside", "I", false)
  | 88 => ("MeetingHouseModel", "talks", "Z", false)
  | 89 => ("MeetingHouseModel", "placeSymbol", "I", false)
  | 90 => ("MeetingHouseModel", "placeIndex", "I", false)
  | 91 => ("MeetingHouseModel", "placeAll", "Z", false)
  | 92 => ("MeetingHouseModel", "placeBits", "[J", true)
  | 93 => ("MeetingHouseModel", "free", "I", false)
  | 94 => ("MeetingHouseModel", "freeSymbol", "[I", true)
  | 95 => ("MeetingHouseModel", "isFixed", "[Z", true)
  | 96 => ("MeetingHouseModel", "keptAt", "[I", true)
  | 97 => ("MeetingHouseModel", "keptBits", "[J", true)
  | 98 => ("MeetingHouseModel", "kept", "I", false)
  | 99 => ("MeetingHouseModel", "formalsTo", "I", false)
  | 100 => ("MeetingHouseModel", "within", "I", false)
  | 101 => ("MeetingHouseModel", "argSymbol", "[I", true)
  | 102 => ("MeetingHouseModel", "argAll", "[Z", true)
  | 103 => ("MeetingHouseModel", "argBits", "[J", true)
  | 104 => ("MeetingHouseModel", "touched", "I", false)
  | 105 => ("MeetingHouseModel", "touchedSymbol", "[I", true)
  | 106 => ("MeetingHouseModel", "aheadAll", "[Z", true)
  | 107 => ("MeetingHouseModel", "aheadBits", "[J", true)
  | 108 => ("MeetingHouseModel", "nowAll", "[Z", true)
  | 109 => ("MeetingHouseModel", "nowBits", "[J", true)
  | 110 => ("MeetingHouseModel", "there", "Z", false)
  | 111 => ("MeetingHouseModel", "heap", "[I", false)
  | 112 => ("MeetingHouseModel", "changedBy", "[I", false)
  | 113 => ("MeetingHouseModel", "usedBy", "[I", false)
  | 114 => ("MeetingHouseModel", "heapEnd", "I", false)
  | 115 => ("MeetingHouseModel", "pieces", "I", false)
  | 116 => ("MeetingHouseModel", "pieceAt", "[I", false)
  | 117 => ("MeetingHouseModel", "pieceSize", "[I", false)
  | 118 => ("MeetingHouseModel", "pages", "[[I", true)
  | 119 => ("MeetingHouseModel", "roomEnd", "I", false)
  | 120 => ("MeetingHouseModel", "gaps", "I", false)
  | 121 => ("MeetingHouseModel", "gapAt", "[I", false)
  | 122 => ("MeetingHouseModel", "gapSize", "[I", false)
  | 123 => ("MeetingHouseModel", "begun", "Z", false)
  | 124 => ("MeetingHouseModel", "ended", "Z", false)
  | 125 => ("MeetingHouseModel", "behindDeclarations", "Z", false)
  | 126 => ("MeetingHouseModel", "seed", "I", false)
  | 127 => ("MeetingHouseModel", "steps", "I", false)
  | 128 => ("MeetingHouseModel", "clock", "I", false)
  | 129 => ("MeetingHouseModel", "made", "I", false)
  | 130 => ("MeetingHouseModel", "meetings", "I", false)
  | 131 => ("MeetingHouseModel", "openCells", "I", false)
  | 132 => ("MeetingHouseModel", "clashes", "I", false)
  | 133 => ("MeetingHouseModel", "calls", "I", false)
  | 134 => ("MeetingHouseModel", "depth", "I", false)
  | 135 => ("MeetingHouseModel", "outSize", "I", false)
  | 136 => ("MeetingHouseModel", "out", "[I", true)
  | 137 => ("MeetingHouseModel", "inSize", "I", false)
  | 138 => ("MeetingHouseModel", "input", "[I", true)
  | 139 => ("MeetingHouseModel", "screenAt", "I", false)
  | 140 => ("MeetingHouseModel", "keyboardAt", "I", false)
  | 141 => ("MeetingHouseModel", "stringBase", "I", false)
  | 142 => ("MeetingHouseModel", "meeting", "[I", true)
  | 143 => ("MeetingHouseModel", "there1", "I", false)
  | 144 => ("MeetingHouseModel", "order", "[I", true)
  | 145 => ("MeetingHouseModel", "isSlot", "[Z", true)
  | 146 => ("MeetingHouseModel", "pNumber", "[I", true)
  | 147 => ("MeetingHouseModel", "pState", "[I", true)
  | 148 => ("MeetingHouseModel", "pParent", "[I", true)
  | 149 => ("MeetingHouseModel", "pFrame", "[I", true)
  | 150 => ("MeetingHouseModel", "pOwn", "[I", true)
  | 151 => ("MeetingHouseModel", "pTop", "[I", true)
  | 152 => ("MeetingHouseModel", "pLeft", "[I", true)
  | 153 => ("MeetingHouseModel", "pLine", "[I", true)
  | 154 => ("MeetingHouseModel", "pFault", "[I", true)
  | 155 => ("MeetingHouseModel", "pChannel", "[I", true)
  | 156 => ("MeetingHouseModel", "pTime", "[I", true)
  | 157 => ("MeetingHouseModel", "pBlock", "[I", true)
  | 158 => ("MeetingHouseModel", "pSize", "[I", true)
  | 159 => ("MeetingHouseModel", "pDone", "[Z", true)
  | 160 => ("MeetingHouseModel", "pCalls", "[I", true)
  | 161 => ("MeetingHouseModel", "me", "I", false)
  | 162 => ("MeetingHouseModel", "frame", "I", false)
  | 163 => ("MeetingHouseModel", "top", "I", false)
  | 164 => ("MeetingHouseModel", "here", "I", false)
  | 165 => ("MeetingHouseModel", "sheets", "[[I", true)
  | 166 => ("MeetingHouseModel", "kEnd", "I", false)
  | 167 => ("MeetingHouseModel", "kFree", "I", false)
  | 168 => ("MeetingHouseModel", "arrayAt", "I", false)
  | 169 => ("MeetingHouseModel", "arraySize", "I", false)
  | 170 => ("MeetingHouseModel", "tables", "I", false)
  | 171 => ("MeetingHouseModel", "tableAt", "[I", false)
  | 172 => ("MeetingHouseModel", "tableSize", "[I", false)
  | 173 => ("MeetingHouseModel", "isOuter", "Z", false)
  | 174 => ("MeetingHouseModel", "vTop", "I", false)
  | 175 => ("MeetingHouseModel", "vAt", "[I", false)
  | 176 => ("MeetingHouseModel", "vSize", "[I", false)
  | 177 => ("MeetingHouseModel", "second", "I", false)
  | 178 => ("MeetingHouseModel", "secondPops", "Z", false)
  | _ => ("MeetingHouseModel", "outer", "I", false)
def tyX13 : Nat → FieldType := fun k => match k with
  | 0 => .object "MeetingHouseModel$Halt"
  | 1 => .int
  | 2 => .array .int
  | 3 => .int
  | 4 => .array (.object "java/lang/String")
  | 5 => .array (.object "java/lang/String")
  | 6 => .int
  | 7 => .array .int
  | 8 => .array .int
  | 9 => .array .int
  | 10 => .array .int
  | 11 => .int
  | 12 => .int
  | 13 => .int
  | 14 => .array .int
  | 15 => .array .int
  | 16 => .array .int
  | 17 => .int
  | 18 => .int
  | 19 => .array .int
  | 20 => .array .int
  | 21 => .array .int
  | 22 => .int
  | 23 => .int
  | 24 => .int
  | 25 => .int
  | 26 => .array .int
  | 27 => .array .int
  | 28 => .array .int
  | 29 => .array .int
  | 30 => .array .int
  | 31 => .array .int
  | 32 => .array .int
  | 33 => .array .int
  | 34 => .array .int
  | 35 => .int
  | 36 => .int
  | 37 => .int
  | 38 => .int
  | 39 => .int
  | 40 => .int
  | 41 => .array .int
  | 42 => .array .int
  | 43 => .int
  | 44 => .int
  | 45 => .array .int
  | 46 => .array .int
  | 47 => .array .int
  | 48 => .array .int
  | 49 => .array .int
  | 50 => .array .int
  | 51 => .array .int
  | 52 => .array .int
  | 53 => .array .boolean
  | 54 => .array .int
  | 55 => .array .int
  | 56 => .int
  | 57 => .array .int
  | 58 => .int
  | 59 => .int
  | 60 => .array .int
  | 61 => .array .int
  | 62 => .int
  | 63 => .array .int
  | 64 => .int
  | 65 => .int
  | 66 => .array .int
  | 67 => .array .int
  | 68 => .array .boolean
  | 69 => .array .int
  | 70 => .array .int
  | 71 => .array .boolean
  | 72 => .int
  | 73 => .int
  | 74 => .int
  | 75 => .int
  | 76 => .array .long
  | 77 => .array .int
  | 78 => .array .int
  | 79 => .long
  | 80 => .int
  | 81 => .array .int
  | 82 => .array .int
  | 83 => .array .int
  | 84 => .array .int
  | 85 => .array .boolean
  | 86 => .int
  | 87 => .int
  | 88 => .boolean
  | 89 => .int
  | 90 => .int
  | 91 => .boolean
  | 92 => .array .long
  | 93 => .int
  | 94 => .array .int
  | 95 => .array .boolean
  | 96 => .array .int
  | 97 => .array .long
  | 98 => .int
  | 99 => .int
  | 100 => .int
  | 101 => .array .int
  | 102 => .array .boolean
  | 103 => .array .long
  | 104 => .int
  | 105 => .array .int
  | 106 => .array .boolean
  | 107 => .array .long
  | 108 => .array .boolean
  | 109 => .array .long
  | 110 => .boolean
  | 111 => .array .int
  | 112 => .array .int
  | 113 => .array .int
  | 114 => .int
  | 115 => .int
  | 116 => .array .int
  | 117 => .array .int
  | 118 => .array (.array .int)
  | 119 => .int
  | 120 => .int
  | 121 => .array .int
  | 122 => .array .int
  | 123 => .boolean
  | 124 => .boolean
  | 125 => .boolean
  | 126 => .int
  | 127 => .int
  | 128 => .int
  | 129 => .int
  | 130 => .int
  | 131 => .int
  | 132 => .int
  | 133 => .int
  | 134 => .int
  | 135 => .int
  | 136 => .array .int
  | 137 => .int
  | 138 => .array .int
  | 139 => .int
  | 140 => .int
  | 141 => .int
  | 142 => .array .int
  | 143 => .int
  | 144 => .array .int
  | 145 => .array .boolean
  | 146 => .array .int
  | 147 => .array .int
  | 148 => .array .int
  | 149 => .array .int
  | 150 => .array .int
  | 151 => .array .int
  | 152 => .array .int
  | 153 => .array .int
  | 154 => .array .int
  | 155 => .array .int
  | 156 => .array .int
  | 157 => .array .int
  | 158 => .array .int
  | 159 => .array .boolean
  | 160 => .array .int
  | 161 => .int
  | 162 => .int
  | 163 => .int
  | 164 => .int
  | 165 => .array (.array .int)
  | 166 => .int
  | 167 => .int
  | 168 => .int
  | 169 => .int
  | 170 => .int
  | 171 => .array .int
  | 172 => .array .int
  | 173 => .boolean
  | 174 => .int
  | 175 => .array .int
  | 176 => .array .int
  | 177 => .int
  | 178 => .boolean
  | _ => .int
abbrev wsX130 : List Cond := u_ws RX13 TX13 180
theorem nmX13 : ∀ a, a < 180 → ∀ b, b < 180 → a ≠ b → (TX13 a).2.1 ≠ (TX13 b).2.1 := by decide +kernel
theorem tyX13_ok : ∀ k, k < 180 → parseFieldDescriptor (TX13 k).2.2.1 = some (tyX13 k) := by decide +kernel
abbrev cX13_init : ByteArray := prog_14_method_1_code
def yX13_init : MethodName := ⟨RX13, "<init>", "()V"⟩
def RJ0 : String := "java/lang/String"
theorem dX12_init_0 : decode cX12_init 0 = .ok (.aload_n 0, 1) := by decide +kernel
theorem dX12_init_1 : decode cX12_init 1 = .ok (.ldc 1, 2) := by decide +kernel
theorem dX12_init_3 : decode cX12_init 3 = .ok (.aconst_null, 1) := by decide +kernel
theorem dX12_init_4 : decode cX12_init 4 = .ok (.iconst 0, 1) := by decide +kernel
theorem dX12_init_5 : decode cX12_init 5 = .ok (.iconst 0, 1) := by decide +kernel
theorem dX12_init_6 : decode cX12_init 6 = .ok (.invokespecial 3, 3) := by decide +kernel
theorem dX12_init_9 : decode cX12_init 9 = .ok (.return_, 1) := by decide +kernel
abbrev vwCl : List vw_C := [(RX0, TX0, 8), (RX1, TX1, 16), (RX2, TX2, 13), (RX3, TX3, 21), (RX4, TX4, 16), (RX5, TX5, 17), (RX6, TX6, 17), (RX7, TX7, 19), (RX8, TX8, 17), (RX9, TX9, 6), (RX10, TX10, 19), (RX11, TX11, 9), (RX12, TX12, 6), (RX13, TX13, 180)]
def RTh : String := "java/lang/Throwable"
def REx : String := "java/lang/Exception"
def RRt : String := "java/lang/RuntimeException"
abbrev cT4 : ByteArray := prog_27_method_5_code
abbrev cE4 : ByteArray := prog_18_method_5_code
abbrev cR4 : ByteArray := prog_22_method_5_code
def yT4 : MethodName := ⟨RTh, "<init>", "(Ljava/lang/String;Ljava/lang/Throwable;ZZ)V"⟩
def yE4 : MethodName := ⟨REx, "<init>", "(Ljava/lang/String;Ljava/lang/Throwable;ZZ)V"⟩
def yR4 : MethodName := ⟨RRt, "<init>", "(Ljava/lang/String;Ljava/lang/Throwable;ZZ)V"⟩
theorem dT4_0 : decode cT4 0 = .ok (.aload_n 0, 1) := by decide +kernel
theorem dT4_1 : decode cT4 1 = .ok (.invokespecial 1, 3) := by decide +kernel
theorem dT4_4 : decode cT4 4 = .ok (.aload_n 0, 1) := by decide +kernel
theorem dT4_5 : decode cT4 5 = .ok (.aload_n 0, 1) := by decide +kernel
theorem dT4_6 : decode cT4 6 = .ok (.putfield 7, 3) := by decide +kernel
theorem dT4_9 : decode cT4 9 = .ok (.aload_n 0, 1) := by decide +kernel
theorem dT4_10 : decode cT4 10 = .ok (.getstatic 13, 3) := by decide +kernel
theorem dT4_13 : decode cT4 13 = .ok (.putfield 17, 3) := by decide +kernel
theorem dT4_16 : decode cT4 16 = .ok (.aload_n 0, 1) := by decide +kernel
theorem dT4_17 : decode cT4 17 = .ok (.getstatic 20, 3) := by decide +kernel
theorem dT4_20 : decode cT4 20 = .ok (.putfield 24, 3) := by decide +kernel
theorem dT4_23 : decode cT4 23 = .ok (.iload 4, 2) := by decide +kernel
theorem dT4_25 : decode cT4 25 = .ok (.ifCond .eq 11, 3) := by decide +kernel
theorem dT4_28 : decode cT4 28 = .ok (.aload_n 0, 1) := by decide +kernel
theorem dT4_29 : decode cT4 29 = .ok (.invokevirtual 27, 3) := by decide +kernel
theorem dT4_32 : decode cT4 32 = .ok (.pop, 1) := by decide +kernel
theorem dT4_33 : decode cT4 33 = .ok (.goto 8, 3) := by decide +kernel
theorem dT4_36 : decode cT4 36 = .ok (.aload_n 0, 1) := by decide +kernel
theorem dT4_37 : decode cT4 37 = .ok (.aconst_null, 1) := by decide +kernel
theorem dT4_38 : decode cT4 38 = .ok (.putfield 17, 3) := by decide +kernel
theorem dT4_41 : decode cT4 41 = .ok (.aload_n 0, 1) := by decide +kernel
theorem dT4_42 : decode cT4 42 = .ok (.aload_n 1, 1) := by decide +kernel
theorem dT4_43 : decode cT4 43 = .ok (.putfield 31, 3) := by decide +kernel
theorem dT4_46 : decode cT4 46 = .ok (.aload_n 0, 1) := by decide +kernel
theorem dT4_47 : decode cT4 47 = .ok (.aload_n 2, 1) := by decide +kernel
theorem dT4_48 : decode cT4 48 = .ok (.putfield 7, 3) := by decide +kernel
theorem dT4_51 : decode cT4 51 = .ok (.iload_n 3, 1) := by decide +kernel
theorem dT4_52 : decode cT4 52 = .ok (.ifCond .ne 8, 3) := by decide +kernel
theorem dT4_55 : decode cT4 55 = .ok (.aload_n 0, 1) := by decide +kernel
theorem dT4_56 : decode cT4 56 = .ok (.aconst_null, 1) := by decide +kernel
theorem dT4_57 : decode cT4 57 = .ok (.putfield 24, 3) := by decide +kernel
theorem dT4_60 : decode cT4 60 = .ok (.return_, 1) := by decide +kernel
theorem dE4_0 : decode cE4 0 = .ok (.aload_n 0, 1) := by decide +kernel
theorem dE4_1 : decode cE4 1 = .ok (.aload_n 1, 1) := by decide +kernel
theorem dE4_2 : decode cE4 2 = .ok (.aload_n 2, 1) := by decide +kernel
theorem dE4_3 : decode cE4 3 = .ok (.iload_n 3, 1) := by decide +kernel
theorem dE4_4 : decode cE4 4 = .ok (.iload 4, 2) := by decide +kernel
theorem dE4_6 : decode cE4 6 = .ok (.invokespecial 16, 3) := by decide +kernel
theorem dE4_9 : decode cE4 9 = .ok (.return_, 1) := by decide +kernel
theorem dR4_0 : decode cR4 0 = .ok (.aload_n 0, 1) := by decide +kernel
theorem dR4_1 : decode cR4 1 = .ok (.aload_n 1, 1) := by decide +kernel
theorem dR4_2 : decode cR4 2 = .ok (.aload_n 2, 1) := by decide +kernel
theorem dR4_3 : decode cR4 3 = .ok (.iload_n 3, 1) := by decide +kernel
theorem dR4_4 : decode cR4 4 = .ok (.iload 4, 2) := by decide +kernel
theorem dR4_6 : decode cR4 6 = .ok (.invokespecial 16, 3) := by decide +kernel
theorem dR4_9 : decode cR4 9 = .ok (.return_, 1) := by decide +kernel
end
section

theorem dX13_init_0 : decode cX13_init 0 = .ok (.aload_n 0, 1) := by decide +kernel
theorem dX13_init_1 : decode cX13_init 1 = .ok (.invokespecial 1, 3) := by decide +kernel
theorem dX13_init_4 : decode cX13_init 4 = .ok (.aload_n 0, 1) := by decide +kernel
theorem dX13_init_5 : decode cX13_init 5 = .ok (.new 7, 3) := by decide +kernel
theorem dX13_init_8 : decode cX13_init 8 = .ok (.dup, 1) := by decide +kernel
theorem dX13_init_9 : decode cX13_init 9 = .ok (.invokespecial 9, 3) := by decide +kernel
theorem dX13_init_12 : decode cX13_init 12 = .ok (.putfield 10, 3) := by decide +kernel
theorem dX13_init_15 : decode cX13_init 15 = .ok (.aload_n 0, 1) := by decide +kernel
theorem dX13_init_16 : decode cX13_init 16 = .ok (.sipush 6000, 3) := by decide +kernel
theorem dX13_init_19 : decode cX13_init 19 = .ok (.newarray .int, 2) := by decide +kernel
theorem dX13_init_21 : decode cX13_init 21 = .ok (.putfield 16, 3) := by decide +kernel
theorem dX13_init_24 : decode cX13_init 24 = .ok (.aload_n 0, 1) := by decide +kernel
theorem dX13_init_25 : decode cX13_init 25 = .ok (.bipush 36, 2) := by decide +kernel
theorem dX13_init_27 : decode cX13_init 27 = .ok (.anewarray 20, 3) := by decide +kernel
theorem dX13_init_30 : decode cX13_init 30 = .ok (.dup, 1) := by decide +kernel
theorem dX13_init_31 : decode cX13_init 31 = .ok (.iconst 0, 1) := by decide +kernel
theorem dX13_init_32 : decode cX13_init 32 = .ok (.ldc 22, 2) := by decide +kernel
theorem dX13_init_34 : decode cX13_init 34 = .ok (.aastore, 1) := by decide +kernel
theorem dX13_init_35 : decode cX13_init 35 = .ok (.dup, 1) := by decide +kernel
theorem dX13_init_36 : decode cX13_init 36 = .ok (.iconst 1, 1) := by decide +kernel
theorem dX13_init_37 : decode cX13_init 37 = .ok (.ldc 24, 2) := by decide +kernel
theorem dX13_init_39 : decode cX13_init 39 = .ok (.aastore, 1) := by decide +kernel
theorem dX13_init_40 : decode cX13_init 40 = .ok (.dup, 1) := by decide +kernel
theorem dX13_init_41 : decode cX13_init 41 = .ok (.iconst 2, 1) := by decide +kernel
theorem dX13_init_42 : decode cX13_init 42 = .ok (.ldc 26, 2) := by decide +kernel
theorem dX13_init_44 : decode cX13_init 44 = .ok (.aastore, 1) := by decide +kernel
theorem dX13_init_45 : decode cX13_init 45 = .ok (.dup, 1) := by decide +kernel
theorem dX13_init_46 : decode cX13_init 46 = .ok (.iconst 3, 1) := by decide +kernel
theorem dX13_init_47 : decode cX13_init 47 = .ok (.ldc 28, 2) := by decide +kernel
theorem dX13_init_49 : decode cX13_init 49 = .ok (.aastore, 1) := by decide +kernel
theorem dX13_init_50 : decode cX13_init 50 = .ok (.dup, 1) := by decide +kernel
theorem dX13_init_51 : decode cX13_init 51 = .ok (.iconst 4, 1) := by decide +kernel
theorem dX13_init_52 : decode cX13_init 52 = .ok (.ldc 30, 2) := by decide +kernel
theorem dX13_init_54 : decode cX13_init 54 = .ok (.aastore, 1) := by decide +kernel
theorem dX13_init_55 : decode cX13_init 55 = .ok (.dup, 1) := by decide +kernel
theorem dX13_init_56 : decode cX13_init 56 = .ok (.iconst 5, 1) := by decide +kernel
theorem dX13_init_57 : decode cX13_init 57 = .ok (.ldc 32, 2) := by decide +kernel
theorem dX13_init_59 : decode cX13_init 59 = .ok (.aastore, 1) := by decide +kernel
theorem dX13_init_60 : decode cX13_init 60 = .ok (.dup, 1) := by decide +kernel
theorem dX13_init_61 : decode cX13_init 61 = .ok (.bipush 6, 2) := by decide +kernel
theorem dX13_init_63 : decode cX13_init 63 = .ok (.ldc 34, 2) := by decide +kernel
theorem dX13_init_65 : decode cX13_init 65 = .ok (.aastore, 1) := by decide +kernel
theorem dX13_init_66 : decode cX13_init 66 = .ok (.dup, 1) := by decide +kernel
theorem dX13_init_67 : decode cX13_init 67 = .ok (.bipush 7, 2) := by decide +kernel
theorem dX13_init_69 : decode cX13_init 69 = .ok (.ldc 36, 2) := by decide +kernel
theorem dX13_init_71 : decode cX13_init 71 = .ok (.aastore, 1) := by decide +kernel
theorem dX13_init_72 : decode cX13_init 72 = .ok (.dup, 1) := by decide +kernel
theorem dX13_init_73 : decode cX13_init 73 = .ok (.bipush 8, 2) := by decide +kernel
theorem dX13_init_75 : decode cX13_init 75 = .ok (.ldc 38, 2) := by decide +kernel
theorem dX13_init_77 : decode cX13_init 77 = .ok (.aastore, 1) := by decide +kernel
theorem dX13_init_78 : decode cX13_init 78 = .ok (.dup, 1) := by decide +kernel
theorem dX13_init_79 : decode cX13_init 79 = .ok (.bipush 9, 2) := by decide +kernel
theorem dX13_init_81 : decode cX13_init 81 = .ok (.ldc 40, 2) := by decide +kernel
theorem dX13_init_83 : decode cX13_init 83 = .ok (.aastore, 1) := by decide +kernel
theorem dX13_init_84 : decode cX13_init 84 = .ok (.dup, 1) := by decide +kernel
theorem dX13_init_85 : decode cX13_init 85 = .ok (.bipush 10, 2) := by decide +kernel
theorem dX13_init_87 : decode cX13_init 87 = .ok (.ldc 42, 2) := by decide +kernel
theorem dX13_init_89 : decode cX13_init 89 = .ok (.aastore, 1) := by decide +kernel
theorem dX13_init_90 : decode cX13_init 90 = .ok (.dup, 1) := by decide +kernel
theorem dX13_init_91 : decode cX13_init 91 = .ok (.bipush 11, 2) := by decide +kernel
theorem dX13_init_93 : decode cX13_init 93 = .ok (.ldc 44, 2) := by decide +kernel
theorem dX13_init_95 : decode cX13_init 95 = .ok (.aastore, 1) := by decide +kernel
theorem dX13_init_96 : decode cX13_init 96 = .ok (.dup, 1) := by decide +kernel
theorem dX13_init_97 : decode cX13_init 97 = .ok (.bipush 12, 2) := by decide +kernel
theorem dX13_init_99 : decode cX13_init 99 = .ok (.ldc 46, 2) := by decide +kernel
theorem dX13_init_101 : decode cX13_init 101 = .ok (.aastore, 1) := by decide +kernel
theorem dX13_init_102 : decode cX13_init 102 = .ok (.dup, 1) := by decide +kernel
theorem dX13_init_103 : decode cX13_init 103 = .ok (.bipush 13, 2) := by decide +kernel
theorem dX13_init_105 : decode cX13_init 105 = .ok (.ldc 48, 2) := by decide +kernel
theorem dX13_init_107 : decode cX13_init 107 = .ok (.aastore, 1) := by decide +kernel
theorem dX13_init_108 : decode cX13_init 108 = .ok (.dup, 1) := by decide +kernel
theorem dX13_init_109 : decode cX13_init 109 = .ok (.bipush 14, 2) := by decide +kernel
theorem dX13_init_111 : decode cX13_init 111 = .ok (.ldc 50, 2) := by decide +kernel
theorem dX13_init_113 : decode cX13_init 113 = .ok (.aastore, 1) := by decide +kernel
theorem dX13_init_114 : decode cX13_init 114 = .ok (.dup, 1) := by decide +kernel
theorem dX13_init_115 : decode cX13_init 115 = .ok (.bipush 15, 2) := by decide +kernel
theorem dX13_init_117 : decode cX13_init 117 = .ok (.ldc 52, 2) := by decide +kernel
theorem dX13_init_119 : decode cX13_init 119 = .ok (.aastore, 1) := by decide +kernel
theorem dX13_init_120 : decode cX13_init 120 = .ok (.dup, 1) := by decide +kernel
theorem dX13_init_121 : decode cX13_init 121 = .ok (.bipush 16, 2) := by decide +kernel
theorem dX13_init_123 : decode cX13_init 123 = .ok (.ldc 54, 2) := by decide +kernel
theorem dX13_init_125 : decode cX13_init 125 = .ok (.aastore, 1) := by decide +kernel
theorem dX13_init_126 : decode cX13_init 126 = .ok (.dup, 1) := by decide +kernel
theorem dX13_init_127 : decode cX13_init 127 = .ok (.bipush 17, 2) := by decide +kernel
theorem dX13_init_129 : decode cX13_init 129 = .ok (.ldc 56, 2) := by decide +kernel
theorem dX13_init_131 : decode cX13_init 131 = .ok (.aastore, 1) := by decide +kernel
theorem dX13_init_132 : decode cX13_init 132 = .ok (.dup, 1) := by decide +kernel
theorem dX13_init_133 : decode cX13_init 133 = .ok (.bipush 18, 2) := by decide +kernel
theorem dX13_init_135 : decode cX13_init 135 = .ok (.ldc 58, 2) := by decide +kernel
theorem dX13_init_137 : decode cX13_init 137 = .ok (.aastore, 1) := by decide +kernel
theorem dX13_init_138 : decode cX13_init 138 = .ok (.dup, 1) := by decide +kernel
theorem dX13_init_139 : decode cX13_init 139 = .ok (.bipush 19, 2) := by decide +kernel
theorem dX13_init_141 : decode cX13_init 141 = .ok (.ldc 60, 2) := by decide +kernel
theorem dX13_init_143 : decode cX13_init 143 = .ok (.aastore, 1) := by decide +kernel
theorem dX13_init_144 : decode cX13_init 144 = .ok (.dup, 1) := by decide +kernel
theorem dX13_init_145 : decode cX13_init 145 = .ok (.bipush 20, 2) := by decide +kernel
theorem dX13_init_147 : decode cX13_init 147 = .ok (.ldc 62, 2) := by decide +kernel
theorem dX13_init_149 : decode cX13_init 149 = .ok (.aastore, 1) := by decide +kernel
theorem dX13_init_150 : decode cX13_init 150 = .ok (.dup, 1) := by decide +kernel
theorem dX13_init_151 : decode cX13_init 151 = .ok (.bipush 21, 2) := by decide +kernel
theorem dX13_init_153 : decode cX13_init 153 = .ok (.ldc 64, 2) := by decide +kernel
theorem dX13_init_155 : decode cX13_init 155 = .ok (.aastore, 1) := by decide +kernel
theorem dX13_init_156 : decode cX13_init 156 = .ok (.dup, 1) := by decide +kernel
theorem dX13_init_157 : decode cX13_init 157 = .ok (.bipush 22, 2) := by decide +kernel
theorem dX13_init_159 : decode cX13_init 159 = .ok (.ldc 66, 2) := by decide +kernel
theorem dX13_init_161 : decode cX13_init 161 = .ok (.aastore, 1) := by decide +kernel
theorem dX13_init_162 : decode cX13_init 162 = .ok (.dup, 1) := by decide +kernel
theorem dX13_init_163 : decode cX13_init 163 = .ok (.bipush 23, 2) := by decide +kernel
theorem dX13_init_165 : decode cX13_init 165 = .ok (.ldc 68, 2) := by decide +kernel
theorem dX13_init_167 : decode cX13_init 167 = .ok (.aastore, 1) := by decide +kernel
theorem dX13_init_168 : decode cX13_init 168 = .ok (.dup, 1) := by decide +kernel
theorem dX13_init_169 : decode cX13_init 169 = .ok (.bipush 24, 2) := by decide +kernel
theorem dX13_init_171 : decode cX13_init 171 = .ok (.ldc 70, 2) := by decide +kernel
theorem dX13_init_173 : decode cX13_init 173 = .ok (.aastore, 1) := by decide +kernel
theorem dX13_init_174 : decode cX13_init 174 = .ok (.dup, 1) := by decide +kernel
theorem dX13_init_175 : decode cX13_init 175 = .ok (.bipush 25, 2) := by decide +kernel
theorem dX13_init_177 : decode cX13_init 177 = .ok (.ldc 72, 2) := by decide +kernel
theorem dX13_init_179 : decode cX13_init 179 = .ok (.aastore, 1) := by decide +kernel
theorem dX13_init_180 : decode cX13_init 180 = .ok (.dup, 1) := by decide +kernel
theorem dX13_init_181 : decode cX13_init 181 = .ok (.bipush 26, 2) := by decide +kernel
theorem dX13_init_183 : decode cX13_init 183 = .ok (.ldc 74, 2) := by decide +kernel
theorem dX13_init_185 : decode cX13_init 185 = .ok (.aastore, 1) := by decide +kernel
theorem dX13_init_186 : decode cX13_init 186 = .ok (.dup, 1) := by decide +kernel
theorem dX13_init_187 : decode cX13_init 187 = .ok (.bipush 27, 2) := by decide +kernel
theorem dX13_init_189 : decode cX13_init 189 = .ok (.ldc 76, 2) := by decide +kernel
theorem dX13_init_191 : decode cX13_init 191 = .ok (.aastore, 1) := by decide +kernel
theorem dX13_init_192 : decode cX13_init 192 = .ok (.dup, 1) := by decide +kernel
theorem dX13_init_193 : decode cX13_init 193 = .ok (.bipush 28, 2) := by decide +kernel
theorem dX13_init_195 : decode cX13_init 195 = .ok (.ldc 78, 2) := by decide +kernel
theorem dX13_init_197 : decode cX13_init 197 = .ok (.aastore, 1) := by decide +kernel
theorem dX13_init_198 : decode cX13_init 198 = .ok (.dup, 1) := by decide +kernel
theorem dX13_init_199 : decode cX13_init 199 = .ok (.bipush 29, 2) := by decide +kernel
theorem dX13_init_201 : decode cX13_init 201 = .ok (.ldc 80, 2) := by decide +kernel
theorem dX13_init_203 : decode cX13_init 203 = .ok (.aastore, 1) := by decide +kernel
theorem dX13_init_204 : decode cX13_init 204 = .ok (.dup, 1) := by decide +kernel
theorem dX13_init_205 : decode cX13_init 205 = .ok (.bipush 30, 2) := by decide +kernel
theorem dX13_init_207 : decode cX13_init 207 = .ok (.ldc 82, 2) := by decide +kernel
theorem dX13_init_209 : decode cX13_init 209 = .ok (.aastore, 1) := by decide +kernel
theorem dX13_init_210 : decode cX13_init 210 = .ok (.dup, 1) := by decide +kernel
theorem dX13_init_211 : decode cX13_init 211 = .ok (.bipush 31, 2) := by decide +kernel
theorem dX13_init_213 : decode cX13_init 213 = .ok (.ldc 84, 2) := by decide +kernel
theorem dX13_init_215 : decode cX13_init 215 = .ok (.aastore, 1) := by decide +kernel
theorem dX13_init_216 : decode cX13_init 216 = .ok (.dup, 1) := by decide +kernel
theorem dX13_init_217 : decode cX13_init 217 = .ok (.bipush 32, 2) := by decide +kernel
theorem dX13_init_219 : decode cX13_init 219 = .ok (.ldc 86, 2) := by decide +kernel
theorem dX13_init_221 : decode cX13_init 221 = .ok (.aastore, 1) := by decide +kernel
theorem dX13_init_222 : decode cX13_init 222 = .ok (.dup, 1) := by decide +kernel
theorem dX13_init_223 : decode cX13_init 223 = .ok (.bipush 33, 2) := by decide +kernel
theorem dX13_init_225 : decode cX13_init 225 = .ok (.ldc 88, 2) := by decide +kernel
theorem dX13_init_227 : decode cX13_init 227 = .ok (.aastore, 1) := by decide +kernel
theorem dX13_init_228 : decode cX13_init 228 = .ok (.dup, 1) := by decide +kernel
theorem dX13_init_229 : decode cX13_init 229 = .ok (.bipush 34, 2) := by decide +kernel
theorem dX13_init_231 : decode cX13_init 231 = .ok (.ldc 90, 2) := by decide +kernel
theorem dX13_init_233 : decode cX13_init 233 = .ok (.aastore, 1) := by decide +kernel
theorem dX13_init_234 : decode cX13_init 234 = .ok (.dup, 1) := by decide +kernel
theorem dX13_init_235 : decode cX13_init 235 = .ok (.bipush 35, 2) := by decide +kernel
theorem dX13_init_237 : decode cX13_init 237 = .ok (.ldc 92, 2) := by decide +kernel
theorem dX13_init_239 : decode cX13_init 239 = .ok (.aastore, 1) := by decide +kernel
theorem dX13_init_240 : decode cX13_init 240 = .ok (.putfield 94, 3) := by decide +kernel
theorem dX13_init_243 : decode cX13_init 243 = .ok (.aload_n 0, 1) := by decide +kernel
theorem dX13_init_244 : decode cX13_init 244 = .ok (.bipush 28, 2) := by decide +kernel
theorem dX13_init_246 : decode cX13_init 246 = .ok (.anewarray 20, 3) := by decide +kernel
theorem dX13_init_249 : decode cX13_init 249 = .ok (.dup, 1) := by decide +kernel
theorem dX13_init_250 : decode cX13_init 250 = .ok (.iconst 0, 1) := by decide +kernel
theorem dX13_init_251 : decode cX13_init 251 = .ok (.ldc 98, 2) := by decide +kernel
theorem dX13_init_253 : decode cX13_init 253 = .ok (.aastore, 1) := by decide +kernel
theorem dX13_init_254 : decode cX13_init 254 = .ok (.dup, 1) := by decide +kernel
theorem dX13_init_255 : decode cX13_init 255 = .ok (.iconst 1, 1) := by decide +kernel
theorem dX13_init_256 : decode cX13_init 256 = .ok (.ldc 100, 2) := by decide +kernel
theorem dX13_init_258 : decode cX13_init 258 = .ok (.aastore, 1) := by decide +kernel
theorem dX13_init_259 : decode cX13_init 259 = .ok (.dup, 1) := by decide +kernel
theorem dX13_init_260 : decode cX13_init 260 = .ok (.iconst 2, 1) := by decide +kernel
theorem dX13_init_261 : decode cX13_init 261 = .ok (.ldc 102, 2) := by decide +kernel
theorem dX13_init_263 : decode cX13_init 263 = .ok (.aastore, 1) := by decide +kernel
theorem dX13_init_264 : decode cX13_init 264 = .ok (.dup, 1) := by decide +kernel
theorem dX13_init_265 : decode cX13_init 265 = .ok (.iconst 3, 1) := by decide +kernel
theorem dX13_init_266 : decode cX13_init 266 = .ok (.ldc 104, 2) := by decide +kernel
theorem dX13_init_268 : decode cX13_init 268 = .ok (.aastore, 1) := by decide +kernel
theorem dX13_init_269 : decode cX13_init 269 = .ok (.dup, 1) := by decide +kernel
theorem dX13_init_270 : decode cX13_init 270 = .ok (.iconst 4, 1) := by decide +kernel
theorem dX13_init_271 : decode cX13_init 271 = .ok (.ldc 106, 2) := by decide +kernel
theorem dX13_init_273 : decode cX13_init 273 = .ok (.aastore, 1) := by decide +kernel
theorem dX13_init_274 : decode cX13_init 274 = .ok (.dup, 1) := by decide +kernel
theorem dX13_init_275 : decode cX13_init 275 = .ok (.iconst 5, 1) := by decide +kernel
theorem dX13_init_276 : decode cX13_init 276 = .ok (.ldc 108, 2) := by decide +kernel
theorem dX13_init_278 : decode cX13_init 278 = .ok (.aastore, 1) := by decide +kernel
theorem dX13_init_279 : decode cX13_init 279 = .ok (.dup, 1) := by decide +kernel
theorem dX13_init_280 : decode cX13_init 280 = .ok (.bipush 6, 2) := by decide +kernel
theorem dX13_init_282 : decode cX13_init 282 = .ok (.ldc 110, 2) := by decide +kernel
theorem dX13_init_284 : decode cX13_init 284 = .ok (.aastore, 1) := by decide +kernel
theorem dX13_init_285 : decode cX13_init 285 = .ok (.dup, 1) := by decide +kernel
theorem dX13_init_286 : decode cX13_init 286 = .ok (.bipush 7, 2) := by decide +kernel
theorem dX13_init_288 : decode cX13_init 288 = .ok (.ldc 112, 2) := by decide +kernel
theorem dX13_init_290 : decode cX13_init 290 = .ok (.aastore, 1) := by decide +kernel
theorem dX13_init_291 : decode cX13_init 291 = .ok (.dup, 1) := by decide +kernel
theorem dX13_init_292 : decode cX13_init 292 = .ok (.bipush 8, 2) := by decide +kernel
theorem dX13_init_294 : decode cX13_init 294 = .ok (.ldc 114, 2) := by decide +kernel
theorem dX13_init_296 : decode cX13_init 296 = .ok (.aastore, 1) := by decide +kernel
theorem dX13_init_297 : decode cX13_init 297 = .ok (.dup, 1) := by decide +kernel
theorem dX13_init_298 : decode cX13_init 298 = .ok (.bipush 9, 2) := by decide +kernel
theorem dX13_init_300 : decode cX13_init 300 = .ok (.ldc 116, 2) := by decide +kernel
theorem dX13_init_302 : decode cX13_init 302 = .ok (.aastore, 1) := by decide +kernel
theorem dX13_init_303 : decode cX13_init 303 = .ok (.dup, 1) := by decide +kernel
theorem dX13_init_304 : decode cX13_init 304 = .ok (.bipush 10, 2) := by decide +kernel
theorem dX13_init_306 : decode cX13_init 306 = .ok (.ldc 118, 2) := by decide +kernel
theorem dX13_init_308 : decode cX13_init 308 = .ok (.aastore, 1) := by decide +kernel
theorem dX13_init_309 : decode cX13_init 309 = .ok (.dup, 1) := by decide +kernel
theorem dX13_init_310 : decode cX13_init 310 = .ok (.bipush 11, 2) := by decide +kernel
theorem dX13_init_312 : decode cX13_init 312 = .ok (.ldc 120, 2) := by decide +kernel
theorem dX13_init_314 : decode cX13_init 314 = .ok (.aastore, 1) := by decide +kernel
theorem dX13_init_315 : decode cX13_init 315 = .ok (.dup, 1) := by decide +kernel
theorem dX13_init_316 : decode cX13_init 316 = .ok (.bipush 12, 2) := by decide +kernel
theorem dX13_init_318 : decode cX13_init 318 = .ok (.ldc 122, 2) := by decide +kernel
theorem dX13_init_320 : decode cX13_init 320 = .ok (.aastore, 1) := by decide +kernel
theorem dX13_init_321 : decode cX13_init 321 = .ok (.dup, 1) := by decide +kernel
theorem dX13_init_322 : decode cX13_init 322 = .ok (.bipush 13, 2) := by decide +kernel
theorem dX13_init_324 : decode cX13_init 324 = .ok (.ldc 124, 2) := by decide +kernel
theorem dX13_init_326 : decode cX13_init 326 = .ok (.aastore, 1) := by decide +kernel
theorem dX13_init_327 : decode cX13_init 327 = .ok (.dup, 1) := by decide +kernel
theorem dX13_init_328 : decode cX13_init 328 = .ok (.bipush 14, 2) := by decide +kernel
theorem dX13_init_330 : decode cX13_init 330 = .ok (.ldc 126, 2) := by decide +kernel
theorem dX13_init_332 : decode cX13_init 332 = .ok (.aastore, 1) := by decide +kernel
theorem dX13_init_333 : decode cX13_init 333 = .ok (.dup, 1) := by decide +kernel
theorem dX13_init_334 : decode cX13_init 334 = .ok (.bipush 15, 2) := by decide +kernel
theorem dX13_init_336 : decode cX13_init 336 = .ok (.ldc 128, 2) := by decide +kernel
theorem dX13_init_338 : decode cX13_init 338 = .ok (.aastore, 1) := by decide +kernel
theorem dX13_init_339 : decode cX13_init 339 = .ok (.dup, 1) := by decide +kernel
theorem dX13_init_340 : decode cX13_init 340 = .ok (.bipush 16, 2) := by decide +kernel
theorem dX13_init_342 : decode cX13_init 342 = .ok (.ldc 130, 2) := by decide +kernel
theorem dX13_init_344 : decode cX13_init 344 = .ok (.aastore, 1) := by decide +kernel
theorem dX13_init_345 : decode cX13_init 345 = .ok (.dup, 1) := by decide +kernel
theorem dX13_init_346 : decode cX13_init 346 = .ok (.bipush 17, 2) := by decide +kernel
theorem dX13_init_348 : decode cX13_init 348 = .ok (.ldc 132, 2) := by decide +kernel
theorem dX13_init_350 : decode cX13_init 350 = .ok (.aastore, 1) := by decide +kernel
theorem dX13_init_351 : decode cX13_init 351 = .ok (.dup, 1) := by decide +kernel
theorem dX13_init_352 : decode cX13_init 352 = .ok (.bipush 18, 2) := by decide +kernel
theorem dX13_init_354 : decode cX13_init 354 = .ok (.ldc 134, 2) := by decide +kernel
theorem dX13_init_356 : decode cX13_init 356 = .ok (.aastore, 1) := by decide +kernel
theorem dX13_init_357 : decode cX13_init 357 = .ok (.dup, 1) := by decide +kernel
theorem dX13_init_358 : decode cX13_init 358 = .ok (.bipush 19, 2) := by decide +kernel
theorem dX13_init_360 : decode cX13_init 360 = .ok (.ldc 136, 2) := by decide +kernel
theorem dX13_init_362 : decode cX13_init 362 = .ok (.aastore, 1) := by decide +kernel
theorem dX13_init_363 : decode cX13_init 363 = .ok (.dup, 1) := by decide +kernel
theorem dX13_init_364 : decode cX13_init 364 = .ok (.bipush 20, 2) := by decide +kernel
theorem dX13_init_366 : decode cX13_init 366 = .ok (.ldc 138, 2) := by decide +kernel
theorem dX13_init_368 : decode cX13_init 368 = .ok (.aastore, 1) := by decide +kernel
theorem dX13_init_369 : decode cX13_init 369 = .ok (.dup, 1) := by decide +kernel
theorem dX13_init_370 : decode cX13_init 370 = .ok (.bipush 21, 2) := by decide +kernel
theorem dX13_init_372 : decode cX13_init 372 = .ok (.ldc 140, 2) := by decide +kernel
theorem dX13_init_374 : decode cX13_init 374 = .ok (.aastore, 1) := by decide +kernel
theorem dX13_init_375 : decode cX13_init 375 = .ok (.dup, 1) := by decide +kernel
theorem dX13_init_376 : decode cX13_init 376 = .ok (.bipush 22, 2) := by decide +kernel
theorem dX13_init_378 : decode cX13_init 378 = .ok (.ldc 142, 2) := by decide +kernel
theorem dX13_init_380 : decode cX13_init 380 = .ok (.aastore, 1) := by decide +kernel
theorem dX13_init_381 : decode cX13_init 381 = .ok (.dup, 1) := by decide +kernel
theorem dX13_init_382 : decode cX13_init 382 = .ok (.bipush 23, 2) := by decide +kernel
theorem dX13_init_384 : decode cX13_init 384 = .ok (.ldc 144, 2) := by decide +kernel
theorem dX13_init_386 : decode cX13_init 386 = .ok (.aastore, 1) := by decide +kernel
theorem dX13_init_387 : decode cX13_init 387 = .ok (.dup, 1) := by decide +kernel
theorem dX13_init_388 : decode cX13_init 388 = .ok (.bipush 24, 2) := by decide +kernel
theorem dX13_init_390 : decode cX13_init 390 = .ok (.ldc 146, 2) := by decide +kernel
theorem dX13_init_392 : decode cX13_init 392 = .ok (.aastore, 1) := by decide +kernel
theorem dX13_init_393 : decode cX13_init 393 = .ok (.dup, 1) := by decide +kernel
theorem dX13_init_394 : decode cX13_init 394 = .ok (.bipush 25, 2) := by decide +kernel
theorem dX13_init_396 : decode cX13_init 396 = .ok (.ldc 148, 2) := by decide +kernel
theorem dX13_init_398 : decode cX13_init 398 = .ok (.aastore, 1) := by decide +kernel
theorem dX13_init_399 : decode cX13_init 399 = .ok (.dup, 1) := by decide +kernel
theorem dX13_init_400 : decode cX13_init 400 = .ok (.bipush 26, 2) := by decide +kernel
theorem dX13_init_402 : decode cX13_init 402 = .ok (.ldc 150, 2) := by decide +kernel
theorem dX13_init_404 : decode cX13_init 404 = .ok (.aastore, 1) := by decide +kernel
theorem dX13_init_405 : decode cX13_init 405 = .ok (.dup, 1) := by decide +kernel
theorem dX13_init_406 : decode cX13_init 406 = .ok (.bipush 27, 2) := by decide +kernel
theorem dX13_init_408 : decode cX13_init 408 = .ok (.ldc 152, 2) := by decide +kernel
theorem dX13_init_410 : decode cX13_init 410 = .ok (.aastore, 1) := by decide +kernel
theorem dX13_init_411 : decode cX13_init 411 = .ok (.putfield 154, 3) := by decide +kernel
theorem dX13_init_414 : decode cX13_init 414 = .ok (.aload_n 0, 1) := by decide +kernel
theorem dX13_init_415 : decode cX13_init 415 = .ok (.sipush 12002, 3) := by decide +kernel
theorem dX13_init_418 : decode cX13_init 418 = .ok (.newarray .int, 2) := by decide +kernel
theorem dX13_init_420 : decode cX13_init 420 = .ok (.putfield 157, 3) := by decide +kernel
theorem dX13_init_423 : decode cX13_init 423 = .ok (.aload_n 0, 1) := by decide +kernel
theorem dX13_init_424 : decode cX13_init 424 = .ok (.sipush 12002, 3) := by decide +kernel
theorem dX13_init_427 : decode cX13_init 427 = .ok (.newarray .int, 2) := by decide +kernel
theorem dX13_init_429 : decode cX13_init 429 = .ok (.putfield 160, 3) := by decide +kernel
theorem dX13_init_432 : decode cX13_init 432 = .ok (.aload_n 0, 1) := by decide +kernel
theorem dX13_init_433 : decode cX13_init 433 = .ok (.sipush 12002, 3) := by decide +kernel
theorem dX13_init_436 : decode cX13_init 436 = .ok (.newarray .int, 2) := by decide +kernel
theorem dX13_init_438 : decode cX13_init 438 = .ok (.putfield 163, 3) := by decide +kernel
theorem dX13_init_441 : decode cX13_init 441 = .ok (.aload_n 0, 1) := by decide +kernel
theorem dX13_init_442 : decode cX13_init 442 = .ok (.sipush 12002, 3) := by decide +kernel
theorem dX13_init_445 : decode cX13_init 445 = .ok (.newarray .int, 2) := by decide +kernel
theorem dX13_init_447 : decode cX13_init 447 = .ok (.putfield 166, 3) := by decide +kernel
theorem dX13_init_450 : decode cX13_init 450 = .ok (.aload_n 0, 1) := by decide +kernel
theorem dX13_init_451 : decode cX13_init 451 = .ok (.sipush 6001, 3) := by decide +kernel
theorem dX13_init_454 : decode cX13_init 454 = .ok (.newarray .int, 2) := by decide +kernel
theorem dX13_init_456 : decode cX13_init 456 = .ok (.putfield 169, 3) := by decide +kernel
theorem dX13_init_459 : decode cX13_init 459 = .ok (.aload_n 0, 1) := by decide +kernel
theorem dX13_init_460 : decode cX13_init 460 = .ok (.sipush 6001, 3) := by decide +kernel
theorem dX13_init_463 : decode cX13_init 463 = .ok (.newarray .int, 2) := by decide +kernel
theorem dX13_init_465 : decode cX13_init 465 = .ok (.putfield 172, 3) := by decide +kernel
theorem dX13_init_468 : decode cX13_init 468 = .ok (.aload_n 0, 1) := by decide +kernel
theorem dX13_init_469 : decode cX13_init 469 = .ok (.sipush 6000, 3) := by decide +kernel
theorem dX13_init_472 : decode cX13_init 472 = .ok (.newarray .int, 2) := by decide +kernel
theorem dX13_init_474 : decode cX13_init 474 = .ok (.putfield 175, 3) := by decide +kernel
theorem dX13_init_477 : decode cX13_init 477 = .ok (.aload_n 0, 1) := by decide +kernel
theorem dX13_init_478 : decode cX13_init 478 = .ok (.sipush 3001, 3) := by decide +kernel
theorem dX13_init_481 : decode cX13_init 481 = .ok (.newarray .int, 2) := by decide +kernel
theorem dX13_init_483 : decode cX13_init 483 = .ok (.putfield 178, 3) := by decide +kernel
theorem dX13_init_486 : decode cX13_init 486 = .ok (.aload_n 0, 1) := by decide +kernel
theorem dX13_init_487 : decode cX13_init 487 = .ok (.sipush 3001, 3) := by decide +kernel
theorem dX13_init_490 : decode cX13_init 490 = .ok (.newarray .int, 2) := by decide +kernel
theorem dX13_init_492 : decode cX13_init 492 = .ok (.putfield 181, 3) := by decide +kernel
theorem dX13_init_495 : decode cX13_init 495 = .ok (.aload_n 0, 1) := by decide +kernel
theorem dX13_init_496 : decode cX13_init 496 = .ok (.sipush 6000, 3) := by decide +kernel
theorem dX13_init_499 : decode cX13_init 499 = .ok (.newarray .int, 2) := by decide +kernel
theorem dX13_init_501 : decode cX13_init 501 = .ok (.putfield 184, 3) := by decide +kernel
theorem dX13_init_504 : decode cX13_init 504 = .ok (.aload_n 0, 1) := by decide +kernel
theorem dX13_init_505 : decode cX13_init 505 = .ok (.sipush 14000, 3) := by decide +kernel
theorem dX13_init_508 : decode cX13_init 508 = .ok (.newarray .int, 2) := by decide +kernel
theorem dX13_init_510 : decode cX13_init 510 = .ok (.putfield 187, 3) := by decide +kernel
theorem dX13_init_513 : decode cX13_init 513 = .ok (.aload_n 0, 1) := by decide +kernel
theorem dX13_init_514 : decode cX13_init 514 = .ok (.sipush 14000, 3) := by decide +kernel
theorem dX13_init_517 : decode cX13_init 517 = .ok (.newarray .int, 2) := by decide +kernel
theorem dX13_init_519 : decode cX13_init 519 = .ok (.putfield 190, 3) := by decide +kernel
theorem dX13_init_522 : decode cX13_init 522 = .ok (.aload_n 0, 1) := by decide +kernel
theorem dX13_init_523 : decode cX13_init 523 = .ok (.sipush 14000, 3) := by decide +kernel
theorem dX13_init_526 : decode cX13_init 526 = .ok (.newarray .int, 2) := by decide +kernel
theorem dX13_init_528 : decode cX13_init 528 = .ok (.putfield 193, 3) := by decide +kernel
theorem dX13_init_531 : decode cX13_init 531 = .ok (.aload_n 0, 1) := by decide +kernel
theorem dX13_init_532 : decode cX13_init 532 = .ok (.sipush 14000, 3) := by decide +kernel
theorem dX13_init_535 : decode cX13_init 535 = .ok (.newarray .int, 2) := by decide +kernel
theorem dX13_init_537 : decode cX13_init 537 = .ok (.putfield 196, 3) := by decide +kernel
theorem dX13_init_540 : decode cX13_init 540 = .ok (.aload_n 0, 1) := by decide +kernel
theorem dX13_init_541 : decode cX13_init 541 = .ok (.sipush 14000, 3) := by decide +kernel
theorem dX13_init_544 : decode cX13_init 544 = .ok (.newarray .int, 2) := by decide +kernel
theorem dX13_init_546 : decode cX13_init 546 = .ok (.putfield 199, 3) := by decide +kernel
theorem dX13_init_549 : decode cX13_init 549 = .ok (.aload_n 0, 1) := by decide +kernel
theorem dX13_init_550 : decode cX13_init 550 = .ok (.sipush 14000, 3) := by decide +kernel
theorem dX13_init_553 : decode cX13_init 553 = .ok (.newarray .int, 2) := by decide +kernel
theorem dX13_init_555 : decode cX13_init 555 = .ok (.putfield 202, 3) := by decide +kernel
theorem dX13_init_558 : decode cX13_init 558 = .ok (.aload_n 0, 1) := by decide +kernel
theorem dX13_init_559 : decode cX13_init 559 = .ok (.sipush 14000, 3) := by decide +kernel
theorem dX13_init_562 : decode cX13_init 562 = .ok (.newarray .int, 2) := by decide +kernel
theorem dX13_init_564 : decode cX13_init 564 = .ok (.putfield 205, 3) := by decide +kernel
theorem dX13_init_567 : decode cX13_init 567 = .ok (.aload_n 0, 1) := by decide +kernel
theorem dX13_init_568 : decode cX13_init 568 = .ok (.sipush 14000, 3) := by decide +kernel
theorem dX13_init_571 : decode cX13_init 571 = .ok (.newarray .int, 2) := by decide +kernel
theorem dX13_init_573 : decode cX13_init 573 = .ok (.putfield 208, 3) := by decide +kernel
theorem dX13_init_576 : decode cX13_init 576 = .ok (.aload_n 0, 1) := by decide +kernel
theorem dX13_init_577 : decode cX13_init 577 = .ok (.sipush 14000, 3) := by decide +kernel
theorem dX13_init_580 : decode cX13_init 580 = .ok (.newarray .int, 2) := by decide +kernel
theorem dX13_init_582 : decode cX13_init 582 = .ok (.putfield 211, 3) := by decide +kernel
theorem dX13_init_585 : decode cX13_init 585 = .ok (.aload_n 0, 1) := by decide +kernel
theorem dX13_init_586 : decode cX13_init 586 = .ok (.sipush 14000, 3) := by decide +kernel
theorem dX13_init_589 : decode cX13_init 589 = .ok (.newarray .int, 2) := by decide +kernel
theorem dX13_init_591 : decode cX13_init 591 = .ok (.putfield 214, 3) := by decide +kernel
theorem dX13_init_594 : decode cX13_init 594 = .ok (.aload_n 0, 1) := by decide +kernel
theorem dX13_init_595 : decode cX13_init 595 = .ok (.sipush 14000, 3) := by decide +kernel
theorem dX13_init_598 : decode cX13_init 598 = .ok (.newarray .int, 2) := by decide +kernel
theorem dX13_init_600 : decode cX13_init 600 = .ok (.putfield 217, 3) := by decide +kernel
theorem dX13_init_603 : decode cX13_init 603 = .ok (.aload_n 0, 1) := by decide +kernel
theorem dX13_init_604 : decode cX13_init 604 = .ok (.sipush 6100, 3) := by decide +kernel
theorem dX13_init_607 : decode cX13_init 607 = .ok (.newarray .int, 2) := by decide +kernel
theorem dX13_init_609 : decode cX13_init 609 = .ok (.putfield 220, 3) := by decide +kernel
theorem dX13_init_612 : decode cX13_init 612 = .ok (.aload_n 0, 1) := by decide +kernel
theorem dX13_init_613 : decode cX13_init 613 = .ok (.sipush 6100, 3) := by decide +kernel
theorem dX13_init_616 : decode cX13_init 616 = .ok (.newarray .int, 2) := by decide +kernel
theorem dX13_init_618 : decode cX13_init 618 = .ok (.putfield 223, 3) := by decide +kernel
theorem dX13_init_621 : decode cX13_init 621 = .ok (.aload_n 0, 1) := by decide +kernel
theorem dX13_init_622 : decode cX13_init 622 = .ok (.sipush 6100, 3) := by decide +kernel
theorem dX13_init_625 : decode cX13_init 625 = .ok (.newarray .int, 2) := by decide +kernel
theorem dX13_init_627 : decode cX13_init 627 = .ok (.putfield 226, 3) := by decide +kernel
theorem dX13_init_630 : decode cX13_init 630 = .ok (.aload_n 0, 1) := by decide +kernel
theorem dX13_init_631 : decode cX13_init 631 = .ok (.sipush 6100, 3) := by decide +kernel
theorem dX13_init_634 : decode cX13_init 634 = .ok (.newarray .int, 2) := by decide +kernel
theorem dX13_init_636 : decode cX13_init 636 = .ok (.putfield 229, 3) := by decide +kernel
theorem dX13_init_639 : decode cX13_init 639 = .ok (.aload_n 0, 1) := by decide +kernel
theorem dX13_init_640 : decode cX13_init 640 = .ok (.sipush 6100, 3) := by decide +kernel
theorem dX13_init_643 : decode cX13_init 643 = .ok (.newarray .int, 2) := by decide +kernel
theorem dX13_init_645 : decode cX13_init 645 = .ok (.putfield 232, 3) := by decide +kernel
theorem dX13_init_648 : decode cX13_init 648 = .ok (.aload_n 0, 1) := by decide +kernel
theorem dX13_init_649 : decode cX13_init 649 = .ok (.sipush 6100, 3) := by decide +kernel
theorem dX13_init_652 : decode cX13_init 652 = .ok (.newarray .int, 2) := by decide +kernel
theorem dX13_init_654 : decode cX13_init 654 = .ok (.putfield 235, 3) := by decide +kernel
theorem dX13_init_657 : decode cX13_init 657 = .ok (.aload_n 0, 1) := by decide +kernel
theorem dX13_init_658 : decode cX13_init 658 = .ok (.sipush 6100, 3) := by decide +kernel
theorem dX13_init_661 : decode cX13_init 661 = .ok (.newarray .int, 2) := by decide +kernel
theorem dX13_init_663 : decode cX13_init 663 = .ok (.putfield 238, 3) := by decide +kernel
theorem dX13_init_666 : decode cX13_init 666 = .ok (.aload_n 0, 1) := by decide +kernel
theorem dX13_init_667 : decode cX13_init 667 = .ok (.sipush 6100, 3) := by decide +kernel
theorem dX13_init_670 : decode cX13_init 670 = .ok (.newarray .int, 2) := by decide +kernel
theorem dX13_init_672 : decode cX13_init 672 = .ok (.putfield 241, 3) := by decide +kernel
theorem dX13_init_675 : decode cX13_init 675 = .ok (.aload_n 0, 1) := by decide +kernel
theorem dX13_init_676 : decode cX13_init 676 = .ok (.sipush 6100, 3) := by decide +kernel
theorem dX13_init_679 : decode cX13_init 679 = .ok (.newarray .boolean, 2) := by decide +kernel
theorem dX13_init_681 : decode cX13_init 681 = .ok (.putfield 244, 3) := by decide +kernel
theorem dX13_init_684 : decode cX13_init 684 = .ok (.aload_n 0, 1) := by decide +kernel
theorem dX13_init_685 : decode cX13_init 685 = .ok (.sipush 6100, 3) := by decide +kernel
theorem dX13_init_688 : decode cX13_init 688 = .ok (.newarray .int, 2) := by decide +kernel
theorem dX13_init_690 : decode cX13_init 690 = .ok (.putfield 248, 3) := by decide +kernel
theorem dX13_init_693 : decode cX13_init 693 = .ok (.aload_n 0, 1) := by decide +kernel
theorem dX13_init_694 : decode cX13_init 694 = .ok (.sipush 6100, 3) := by decide +kernel
theorem dX13_init_697 : decode cX13_init 697 = .ok (.newarray .int, 2) := by decide +kernel
theorem dX13_init_699 : decode cX13_init 699 = .ok (.putfield 251, 3) := by decide +kernel
theorem dX13_init_702 : decode cX13_init 702 = .ok (.aload_n 0, 1) := by decide +kernel
theorem dX13_init_703 : decode cX13_init 703 = .ok (.sipush 6100, 3) := by decide +kernel
theorem dX13_init_706 : decode cX13_init 706 = .ok (.newarray .int, 2) := by decide +kernel
theorem dX13_init_708 : decode cX13_init 708 = .ok (.putfield 254, 3) := by decide +kernel
theorem dX13_init_711 : decode cX13_init 711 = .ok (.aload_n 0, 1) := by decide +kernel
theorem dX13_init_712 : decode cX13_init 712 = .ok (.sipush 6100, 3) := by decide +kernel
theorem dX13_init_715 : decode cX13_init 715 = .ok (.newarray .int, 2) := by decide +kernel
theorem dX13_init_717 : decode cX13_init 717 = .ok (.putfield 257, 3) := by decide +kernel
theorem dX13_init_720 : decode cX13_init 720 = .ok (.aload_n 0, 1) := by decide +kernel
theorem dX13_init_721 : decode cX13_init 721 = .ok (.sipush 6100, 3) := by decide +kernel
theorem dX13_init_724 : decode cX13_init 724 = .ok (.newarray .int, 2) := by decide +kernel
theorem dX13_init_726 : decode cX13_init 726 = .ok (.putfield 260, 3) := by decide +kernel
theorem dX13_init_729 : decode cX13_init 729 = .ok (.aload_n 0, 1) := by decide +kernel
theorem dX13_init_730 : decode cX13_init 730 = .ok (.sipush 14000, 3) := by decide +kernel
theorem dX13_init_733 : decode cX13_init 733 = .ok (.newarray .int, 2) := by decide +kernel
theorem dX13_init_735 : decode cX13_init 735 = .ok (.putfield 263, 3) := by decide +kernel
theorem dX13_init_738 : decode cX13_init 738 = .ok (.aload_n 0, 1) := by decide +kernel
theorem dX13_init_739 : decode cX13_init 739 = .ok (.sipush 14000, 3) := by decide +kernel
theorem dX13_init_742 : decode cX13_init 742 = .ok (.newarray .int, 2) := by decide +kernel
theorem dX13_init_744 : decode cX13_init 744 = .ok (.putfield 266, 3) := by decide +kernel
theorem dX13_init_747 : decode cX13_init 747 = .ok (.aload_n 0, 1) := by decide +kernel
theorem dX13_init_748 : decode cX13_init 748 = .ok (.sipush 14000, 3) := by decide +kernel
theorem dX13_init_751 : decode cX13_init 751 = .ok (.newarray .int, 2) := by decide +kernel
theorem dX13_init_753 : decode cX13_init 753 = .ok (.putfield 269, 3) := by decide +kernel
theorem dX13_init_756 : decode cX13_init 756 = .ok (.aload_n 0, 1) := by decide +kernel
theorem dX13_init_757 : decode cX13_init 757 = .ok (.sipush 6100, 3) := by decide +kernel
theorem dX13_init_760 : decode cX13_init 760 = .ok (.newarray .boolean, 2) := by decide +kernel
theorem dX13_init_762 : decode cX13_init 762 = .ok (.putfield 272, 3) := by decide +kernel
theorem dX13_init_765 : decode cX13_init 765 = .ok (.aload_n 0, 1) := by decide +kernel
theorem dX13_init_766 : decode cX13_init 766 = .ok (.sipush 6100, 3) := by decide +kernel
theorem dX13_init_769 : decode cX13_init 769 = .ok (.newarray .int, 2) := by decide +kernel
theorem dX13_init_771 : decode cX13_init 771 = .ok (.putfield 275, 3) := by decide +kernel
theorem dX13_init_774 : decode cX13_init 774 = .ok (.aload_n 0, 1) := by decide +kernel
theorem dX13_init_775 : decode cX13_init 775 = .ok (.sipush 6100, 3) := by decide +kernel
theorem dX13_init_778 : decode cX13_init 778 = .ok (.newarray .int, 2) := by decide +kernel
theorem dX13_init_780 : decode cX13_init 780 = .ok (.putfield 278, 3) := by decide +kernel
theorem dX13_init_783 : decode cX13_init 783 = .ok (.aload_n 0, 1) := by decide +kernel
theorem dX13_init_784 : decode cX13_init 784 = .ok (.sipush 6100, 3) := by decide +kernel
theorem dX13_init_787 : decode cX13_init 787 = .ok (.newarray .boolean, 2) := by decide +kernel
theorem dX13_init_789 : decode cX13_init 789 = .ok (.putfield 281, 3) := by decide +kernel
theorem dX13_init_792 : decode cX13_init 792 = .ok (.aload_n 0, 1) := by decide +kernel
theorem dX13_init_793 : decode cX13_init 793 = .ok (.sipush 14000, 3) := by decide +kernel
theorem dX13_init_796 : decode cX13_init 796 = .ok (.newarray .long, 2) := by decide +kernel
theorem dX13_init_798 : decode cX13_init 798 = .ok (.putfield 284, 3) := by decide +kernel
theorem dX13_init_801 : decode cX13_init 801 = .ok (.aload_n 0, 1) := by decide +kernel
theorem dX13_init_802 : decode cX13_init 802 = .ok (.sipush 14000, 3) := by decide +kernel
theorem dX13_init_805 : decode cX13_init 805 = .ok (.newarray .int, 2) := by decide +kernel
theorem dX13_init_807 : decode cX13_init 807 = .ok (.putfield 288, 3) := by decide +kernel
theorem dX13_init_810 : decode cX13_init 810 = .ok (.aload_n 0, 1) := by decide +kernel
theorem dX13_init_811 : decode cX13_init 811 = .ok (.sipush 14000, 3) := by decide +kernel
theorem dX13_init_814 : decode cX13_init 814 = .ok (.newarray .int, 2) := by decide +kernel
theorem dX13_init_816 : decode cX13_init 816 = .ok (.putfield 291, 3) := by decide +kernel
theorem dX13_init_819 : decode cX13_init 819 = .ok (.aload_n 0, 1) := by decide +kernel
theorem dX13_init_820 : decode cX13_init 820 = .ok (.ldc_w 294, 3) := by decide +kernel
theorem dX13_init_823 : decode cX13_init 823 = .ok (.newarray .int, 2) := by decide +kernel
theorem dX13_init_825 : decode cX13_init 825 = .ok (.putfield 295, 3) := by decide +kernel
theorem dX13_init_828 : decode cX13_init 828 = .ok (.aload_n 0, 1) := by decide +kernel
theorem dX13_init_829 : decode cX13_init 829 = .ok (.ldc_w 294, 3) := by decide +kernel
theorem dX13_init_832 : decode cX13_init 832 = .ok (.newarray .int, 2) := by decide +kernel
theorem dX13_init_834 : decode cX13_init 834 = .ok (.putfield 298, 3) := by decide +kernel
theorem dX13_init_837 : decode cX13_init 837 = .ok (.aload_n 0, 1) := by decide +kernel
theorem dX13_init_838 : decode cX13_init 838 = .ok (.sipush 14000, 3) := by decide +kernel
theorem dX13_init_841 : decode cX13_init 841 = .ok (.newarray .int, 2) := by decide +kernel
theorem dX13_init_843 : decode cX13_init 843 = .ok (.putfield 301, 3) := by decide +kernel
theorem dX13_init_846 : decode cX13_init 846 = .ok (.aload_n 0, 1) := by decide +kernel
theorem dX13_init_847 : decode cX13_init 847 = .ok (.sipush 14000, 3) := by decide +kernel
theorem dX13_init_850 : decode cX13_init 850 = .ok (.newarray .int, 2) := by decide +kernel
theorem dX13_init_852 : decode cX13_init 852 = .ok (.putfield 304, 3) := by decide +kernel
theorem dX13_init_855 : decode cX13_init 855 = .ok (.aload_n 0, 1) := by decide +kernel
theorem dX13_init_856 : decode cX13_init 856 = .ok (.sipush 14000, 3) := by decide +kernel
theorem dX13_init_859 : decode cX13_init 859 = .ok (.newarray .boolean, 2) := by decide +kernel
theorem dX13_init_861 : decode cX13_init 861 = .ok (.putfield 307, 3) := by decide +kernel
theorem dX13_init_864 : decode cX13_init 864 = .ok (.aload_n 0, 1) := by decide +kernel
theorem dX13_init_865 : decode cX13_init 865 = .ok (.iconst 4, 1) := by decide +kernel
theorem dX13_init_866 : decode cX13_init 866 = .ok (.newarray .long, 2) := by decide +kernel
theorem dX13_init_868 : decode cX13_init 868 = .ok (.putfield 310, 3) := by decide +kernel
theorem dX13_init_871 : decode cX13_init 871 = .ok (.aload_n 0, 1) := by decide +kernel
theorem dX13_init_872 : decode cX13_init 872 = .ok (.bipush 64, 2) := by decide +kernel
theorem dX13_init_874 : decode cX13_init 874 = .ok (.newarray .int, 2) := by decide +kernel
theorem dX13_init_876 : decode cX13_init 876 = .ok (.putfield 313, 3) := by decide +kernel
theorem dX13_init_879 : decode cX13_init 879 = .ok (.aload_n 0, 1) := by decide +kernel
theorem dX13_init_880 : decode cX13_init 880 = .ok (.sipush 6100, 3) := by decide +kernel
theorem dX13_init_883 : decode cX13_init 883 = .ok (.newarray .boolean, 2) := by decide +kernel
theorem dX13_init_885 : decode cX13_init 885 = .ok (.putfield 316, 3) := by decide +kernel
theorem dX13_init_888 : decode cX13_init 888 = .ok (.aload_n 0, 1) := by decide +kernel
theorem dX13_init_889 : decode cX13_init 889 = .ok (.sipush 14000, 3) := by decide +kernel
theorem dX13_init_892 : decode cX13_init 892 = .ok (.newarray .int, 2) := by decide +kernel
theorem dX13_init_894 : decode cX13_init 894 = .ok (.putfield 319, 3) := by decide +kernel
theorem dX13_init_897 : decode cX13_init 897 = .ok (.aload_n 0, 1) := by decide +kernel
theorem dX13_init_898 : decode cX13_init 898 = .ok (.sipush 12000, 3) := by decide +kernel
theorem dX13_init_901 : decode cX13_init 901 = .ok (.newarray .long, 2) := by decide +kernel
theorem dX13_init_903 : decode cX13_init 903 = .ok (.putfield 322, 3) := by decide +kernel
theorem dX13_init_906 : decode cX13_init 906 = .ok (.aload_n 0, 1) := by decide +kernel
theorem dX13_init_907 : decode cX13_init 907 = .ok (.bipush 8, 2) := by decide +kernel
theorem dX13_init_909 : decode cX13_init 909 = .ok (.newarray .int, 2) := by decide +kernel
theorem dX13_init_911 : decode cX13_init 911 = .ok (.putfield 325, 3) := by decide +kernel
theorem dX13_init_914 : decode cX13_init 914 = .ok (.aload_n 0, 1) := by decide +kernel
theorem dX13_init_915 : decode cX13_init 915 = .ok (.bipush 8, 2) := by decide +kernel
theorem dX13_init_917 : decode cX13_init 917 = .ok (.newarray .boolean, 2) := by decide +kernel
theorem dX13_init_919 : decode cX13_init 919 = .ok (.putfield 328, 3) := by decide +kernel
theorem dX13_init_922 : decode cX13_init 922 = .ok (.aload_n 0, 1) := by decide +kernel
theorem dX13_init_923 : decode cX13_init 923 = .ok (.bipush 32, 2) := by decide +kernel
theorem dX13_init_925 : decode cX13_init 925 = .ok (.newarray .long, 2) := by decide +kernel
theorem dX13_init_927 : decode cX13_init 927 = .ok (.putfield 331, 3) := by decide +kernel
theorem dX13_init_930 : decode cX13_init 930 = .ok (.aload_n 0, 1) := by decide +kernel
theorem dX13_init_931 : decode cX13_init 931 = .ok (.sipush 1600, 3) := by decide +kernel
theorem dX13_init_934 : decode cX13_init 934 = .ok (.newarray .int, 2) := by decide +kernel
theorem dX13_init_936 : decode cX13_init 936 = .ok (.putfield 334, 3) := by decide +kernel
theorem dX13_init_939 : decode cX13_init 939 = .ok (.aload_n 0, 1) := by decide +kernel
theorem dX13_init_940 : decode cX13_init 940 = .ok (.sipush 6400, 3) := by decide +kernel
theorem dX13_init_943 : decode cX13_init 943 = .ok (.newarray .boolean, 2) := by decide +kernel
theorem dX13_init_945 : decode cX13_init 945 = .ok (.putfield 337, 3) := by decide +kernel
theorem dX13_init_948 : decode cX13_init 948 = .ok (.aload_n 0, 1) := by decide +kernel
theorem dX13_init_949 : decode cX13_init 949 = .ok (.sipush 25600, 3) := by decide +kernel
theorem dX13_init_952 : decode cX13_init 952 = .ok (.newarray .long, 2) := by decide +kernel
theorem dX13_init_954 : decode cX13_init 954 = .ok (.putfield 340, 3) := by decide +kernel
theorem dX13_init_957 : decode cX13_init 957 = .ok (.aload_n 0, 1) := by decide +kernel
theorem dX13_init_958 : decode cX13_init 958 = .ok (.sipush 6400, 3) := by decide +kernel
theorem dX13_init_961 : decode cX13_init 961 = .ok (.newarray .boolean, 2) := by decide +kernel
theorem dX13_init_963 : decode cX13_init 963 = .ok (.putfield 343, 3) := by decide +kernel
theorem dX13_init_966 : decode cX13_init 966 = .ok (.aload_n 0, 1) := by decide +kernel
theorem dX13_init_967 : decode cX13_init 967 = .ok (.sipush 25600, 3) := by decide +kernel
theorem dX13_init_970 : decode cX13_init 970 = .ok (.newarray .long, 2) := by decide +kernel
theorem dX13_init_972 : decode cX13_init 972 = .ok (.putfield 346, 3) := by decide +kernel
theorem dX13_init_975 : decode cX13_init 975 = .ok (.aload_n 0, 1) := by decide +kernel
theorem dX13_init_976 : decode cX13_init 976 = .ok (.ldc_w 349, 3) := by decide +kernel
theorem dX13_init_979 : decode cX13_init 979 = .ok (.newarray .int, 2) := by decide +kernel
theorem dX13_init_981 : decode cX13_init 981 = .ok (.putfield 350, 3) := by decide +kernel
theorem dX13_init_984 : decode cX13_init 984 = .ok (.aload_n 0, 1) := by decide +kernel
theorem dX13_init_985 : decode cX13_init 985 = .ok (.ldc_w 349, 3) := by decide +kernel
theorem dX13_init_988 : decode cX13_init 988 = .ok (.newarray .int, 2) := by decide +kernel
theorem dX13_init_990 : decode cX13_init 990 = .ok (.putfield 353, 3) := by decide +kernel
theorem dX13_init_993 : decode cX13_init 993 = .ok (.aload_n 0, 1) := by decide +kernel
theorem dX13_init_994 : decode cX13_init 994 = .ok (.ldc_w 349, 3) := by decide +kernel
theorem dX13_init_997 : decode cX13_init 997 = .ok (.newarray .int, 2) := by decide +kernel
theorem dX13_init_999 : decode cX13_init 999 = .ok (.putfield 356, 3) := by decide +kernel
theorem dX13_init_1002 : decode cX13_init 1002 = .ok (.aload_n 0, 1) := by decide +kernel
theorem dX13_init_1003 : decode cX13_init 1003 = .ok (.sipush 2048, 3) := by decide +kernel
theorem dX13_init_1006 : decode cX13_init 1006 = .ok (.newarray .int, 2) := by decide +kernel
theorem dX13_init_1008 : decode cX13_init 1008 = .ok (.putfield 359, 3) := by decide +kernel
theorem dX13_init_1011 : decode cX13_init 1011 = .ok (.aload_n 0, 1) := by decide +kernel
theorem dX13_init_1012 : decode cX13_init 1012 = .ok (.sipush 2048, 3) := by decide +kernel
theorem dX13_init_1015 : decode cX13_init 1015 = .ok (.newarray .int, 2) := by decide +kernel
theorem dX13_init_1017 : decode cX13_init 1017 = .ok (.putfield 362, 3) := by decide +kernel
theorem dX13_init_1020 : decode cX13_init 1020 = .ok (.aload_n 0, 1) := by decide +kernel
theorem dX13_init_1021 : decode cX13_init 1021 = .ok (.bipush 32, 2) := by decide +kernel
theorem dX13_init_1023 : decode cX13_init 1023 = .ok (.anewarray 365, 3) := by decide +kernel
theorem dX13_init_1026 : decode cX13_init 1026 = .ok (.putfield 366, 3) := by decide +kernel
theorem dX13_init_1029 : decode cX13_init 1029 = .ok (.aload_n 0, 1) := by decide +kernel
theorem dX13_init_1030 : decode cX13_init 1030 = .ok (.sipush 2048, 3) := by decide +kernel
theorem dX13_init_1033 : decode cX13_init 1033 = .ok (.newarray .int, 2) := by decide +kernel
theorem dX13_init_1035 : decode cX13_init 1035 = .ok (.putfield 370, 3) := by decide +kernel
theorem dX13_init_1038 : decode cX13_init 1038 = .ok (.aload_n 0, 1) := by decide +kernel
theorem dX13_init_1039 : decode cX13_init 1039 = .ok (.sipush 2048, 3) := by decide +kernel
theorem dX13_init_1042 : decode cX13_init 1042 = .ok (.newarray .int, 2) := by decide +kernel
theorem dX13_init_1044 : decode cX13_init 1044 = .ok (.putfield 373, 3) := by decide +kernel
theorem dX13_init_1047 : decode cX13_init 1047 = .ok (.aload_n 0, 1) := by decide +kernel
theorem dX13_init_1048 : decode cX13_init 1048 = .ok (.sipush 2000, 3) := by decide +kernel
theorem dX13_init_1051 : decode cX13_init 1051 = .ok (.newarray .int, 2) := by decide +kernel
theorem dX13_init_1053 : decode cX13_init 1053 = .ok (.putfield 376, 3) := by decide +kernel
theorem dX13_init_1056 : decode cX13_init 1056 = .ok (.aload_n 0, 1) := by decide +kernel
theorem dX13_init_1057 : decode cX13_init 1057 = .ok (.sipush 500, 3) := by decide +kernel
theorem dX13_init_1060 : decode cX13_init 1060 = .ok (.newarray .int, 2) := by decide +kernel
theorem dX13_init_1062 : decode cX13_init 1062 = .ok (.putfield 379, 3) := by decide +kernel
theorem dX13_init_1065 : decode cX13_init 1065 = .ok (.aload_n 0, 1) := by decide +kernel
theorem dX13_init_1066 : decode cX13_init 1066 = .ok (.sipush 448, 3) := by decide +kernel
theorem dX13_init_1069 : decode cX13_init 1069 = .ok (.newarray .int, 2) := by decide +kernel
theorem dX13_init_1071 : decode cX13_init 1071 = .ok (.putfield 382, 3) := by decide +kernel
theorem dX13_init_1074 : decode cX13_init 1074 = .ok (.aload_n 0, 1) := by decide +kernel
theorem dX13_init_1075 : decode cX13_init 1075 = .ok (.bipush 82, 2) := by decide +kernel
theorem dX13_init_1077 : decode cX13_init 1077 = .ok (.newarray .int, 2) := by decide +kernel
theorem dX13_init_1079 : decode cX13_init 1079 = .ok (.putfield 385, 3) := by decide +kernel
theorem dX13_init_1082 : decode cX13_init 1082 = .ok (.aload_n 0, 1) := by decide +kernel
theorem dX13_init_1083 : decode cX13_init 1083 = .ok (.bipush 82, 2) := by decide +kernel
theorem dX13_init_1085 : decode cX13_init 1085 = .ok (.newarray .boolean, 2) := by decide +kernel
theorem dX13_init_1087 : decode cX13_init 1087 = .ok (.putfield 388, 3) := by decide +kernel
theorem dX13_init_1090 : decode cX13_init 1090 = .ok (.aload_n 0, 1) := by decide +kernel
theorem dX13_init_1091 : decode cX13_init 1091 = .ok (.bipush 82, 2) := by decide +kernel
theorem dX13_init_1093 : decode cX13_init 1093 = .ok (.newarray .int, 2) := by decide +kernel
theorem dX13_init_1095 : decode cX13_init 1095 = .ok (.putfield 391, 3) := by decide +kernel
theorem dX13_init_1098 : decode cX13_init 1098 = .ok (.aload_n 0, 1) := by decide +kernel
theorem dX13_init_1099 : decode cX13_init 1099 = .ok (.bipush 82, 2) := by decide +kernel
theorem dX13_init_1101 : decode cX13_init 1101 = .ok (.newarray .int, 2) := by decide +kernel
theorem dX13_init_1103 : decode cX13_init 1103 = .ok (.putfield 394, 3) := by decide +kernel
theorem dX13_init_1106 : decode cX13_init 1106 = .ok (.aload_n 0, 1) := by decide +kernel
theorem dX13_init_1107 : decode cX13_init 1107 = .ok (.bipush 82, 2) := by decide +kernel
theorem dX13_init_1109 : decode cX13_init 1109 = .ok (.newarray .int, 2) := by decide +kernel
theorem dX13_init_1111 : decode cX13_init 1111 = .ok (.putfield 397, 3) := by decide +kernel
theorem dX13_init_1114 : decode cX13_init 1114 = .ok (.aload_n 0, 1) := by decide +kernel
theorem dX13_init_1115 : decode cX13_init 1115 = .ok (.bipush 82, 2) := by decide +kernel
theorem dX13_init_1117 : decode cX13_init 1117 = .ok (.newarray .int, 2) := by decide +kernel
theorem dX13_init_1119 : decode cX13_init 1119 = .ok (.putfield 400, 3) := by decide +kernel
theorem dX13_init_1122 : decode cX13_init 1122 = .ok (.aload_n 0, 1) := by decide +kernel
theorem dX13_init_1123 : decode cX13_init 1123 = .ok (.bipush 82, 2) := by decide +kernel
theorem dX13_init_1125 : decode cX13_init 1125 = .ok (.newarray .int, 2) := by decide +kernel
theorem dX13_init_1127 : decode cX13_init 1127 = .ok (.putfield 403, 3) := by decide +kernel
theorem dX13_init_1130 : decode cX13_init 1130 = .ok (.aload_n 0, 1) := by decide +kernel
theorem dX13_init_1131 : decode cX13_init 1131 = .ok (.bipush 82, 2) := by decide +kernel
theorem dX13_init_1133 : decode cX13_init 1133 = .ok (.newarray .int, 2) := by decide +kernel
theorem dX13_init_1135 : decode cX13_init 1135 = .ok (.putfield 406, 3) := by decide +kernel
theorem dX13_init_1138 : decode cX13_init 1138 = .ok (.aload_n 0, 1) := by decide +kernel
theorem dX13_init_1139 : decode cX13_init 1139 = .ok (.bipush 82, 2) := by decide +kernel
theorem dX13_init_1141 : decode cX13_init 1141 = .ok (.newarray .int, 2) := by decide +kernel
theorem dX13_init_1143 : decode cX13_init 1143 = .ok (.putfield 409, 3) := by decide +kernel
theorem dX13_init_1146 : decode cX13_init 1146 = .ok (.aload_n 0, 1) := by decide +kernel
theorem dX13_init_1147 : decode cX13_init 1147 = .ok (.bipush 82, 2) := by decide +kernel
theorem dX13_init_1149 : decode cX13_init 1149 = .ok (.newarray .int, 2) := by decide +kernel
theorem dX13_init_1151 : decode cX13_init 1151 = .ok (.putfield 412, 3) := by decide +kernel
theorem dX13_init_1154 : decode cX13_init 1154 = .ok (.aload_n 0, 1) := by decide +kernel
theorem dX13_init_1155 : decode cX13_init 1155 = .ok (.bipush 82, 2) := by decide +kernel
theorem dX13_init_1157 : decode cX13_init 1157 = .ok (.newarray .int, 2) := by decide +kernel
theorem dX13_init_1159 : decode cX13_init 1159 = .ok (.putfield 415, 3) := by decide +kernel
theorem dX13_init_1162 : decode cX13_init 1162 = .ok (.aload_n 0, 1) := by decide +kernel
theorem dX13_init_1163 : decode cX13_init 1163 = .ok (.bipush 82, 2) := by decide +kernel
theorem dX13_init_1165 : decode cX13_init 1165 = .ok (.newarray .int, 2) := by decide +kernel
theorem dX13_init_1167 : decode cX13_init 1167 = .ok (.putfield 418, 3) := by decide +kernel
theorem dX13_init_1170 : decode cX13_init 1170 = .ok (.aload_n 0, 1) := by decide +kernel
theorem dX13_init_1171 : decode cX13_init 1171 = .ok (.bipush 82, 2) := by decide +kernel
theorem dX13_init_1173 : decode cX13_init 1173 = .ok (.newarray .int, 2) := by decide +kernel
theorem dX13_init_1175 : decode cX13_init 1175 = .ok (.putfield 421, 3) := by decide +kernel
theorem dX13_init_1178 : decode cX13_init 1178 = .ok (.aload_n 0, 1) := by decide +kernel
theorem dX13_init_1179 : decode cX13_init 1179 = .ok (.bipush 82, 2) := by decide +kernel
theorem dX13_init_1181 : decode cX13_init 1181 = .ok (.newarray .int, 2) := by decide +kernel
theorem dX13_init_1183 : decode cX13_init 1183 = .ok (.putfield 424, 3) := by decide +kernel
theorem dX13_init_1186 : decode cX13_init 1186 = .ok (.aload_n 0, 1) := by decide +kernel
theorem dX13_init_1187 : decode cX13_init 1187 = .ok (.bipush 82, 2) := by decide +kernel
theorem dX13_init_1189 : decode cX13_init 1189 = .ok (.newarray .int, 2) := by decide +kernel
theorem dX13_init_1191 : decode cX13_init 1191 = .ok (.putfield 427, 3) := by decide +kernel
theorem dX13_init_1194 : decode cX13_init 1194 = .ok (.aload_n 0, 1) := by decide +kernel
theorem dX13_init_1195 : decode cX13_init 1195 = .ok (.bipush 82, 2) := by decide +kernel
theorem dX13_init_1197 : decode cX13_init 1197 = .ok (.newarray .boolean, 2) := by decide +kernel
theorem dX13_init_1199 : decode cX13_init 1199 = .ok (.putfield 430, 3) := by decide +kernel
theorem dX13_init_1202 : decode cX13_init 1202 = .ok (.aload_n 0, 1) := by decide +kernel
theorem dX13_init_1203 : decode cX13_init 1203 = .ok (.bipush 82, 2) := by decide +kernel
theorem dX13_init_1205 : decode cX13_init 1205 = .ok (.newarray .int, 2) := by decide +kernel
theorem dX13_init_1207 : decode cX13_init 1207 = .ok (.putfield 433, 3) := by decide +kernel
theorem dX13_init_1210 : decode cX13_init 1210 = .ok (.aload_n 0, 1) := by decide +kernel
theorem dX13_init_1211 : decode cX13_init 1211 = .ok (.bipush 64, 2) := by decide +kernel
theorem dX13_init_1213 : decode cX13_init 1213 = .ok (.anewarray 365, 3) := by decide +kernel
theorem dX13_init_1216 : decode cX13_init 1216 = .ok (.putfield 436, 3) := by decide +kernel
theorem dX13_init_1219 : decode cX13_init 1219 = .ok (.aload_n 0, 1) := by decide +kernel
theorem dX13_init_1220 : decode cX13_init 1220 = .ok (.sipush 256, 3) := by decide +kernel
theorem dX13_init_1223 : decode cX13_init 1223 = .ok (.newarray .int, 2) := by decide +kernel
theorem dX13_init_1225 : decode cX13_init 1225 = .ok (.putfield 439, 3) := by decide +kernel
theorem dX13_init_1228 : decode cX13_init 1228 = .ok (.aload_n 0, 1) := by decide +kernel
theorem dX13_init_1229 : decode cX13_init 1229 = .ok (.sipush 256, 3) := by decide +kernel
theorem dX13_init_1232 : decode cX13_init 1232 = .ok (.newarray .int, 2) := by decide +kernel
theorem dX13_init_1234 : decode cX13_init 1234 = .ok (.putfield 442, 3) := by decide +kernel
theorem dX13_init_1237 : decode cX13_init 1237 = .ok (.aload_n 0, 1) := by decide +kernel
theorem dX13_init_1238 : decode cX13_init 1238 = .ok (.sipush 512, 3) := by decide +kernel
theorem dX13_init_1241 : decode cX13_init 1241 = .ok (.newarray .int, 2) := by decide +kernel
theorem dX13_init_1243 : decode cX13_init 1243 = .ok (.putfield 445, 3) := by decide +kernel
theorem dX13_init_1246 : decode cX13_init 1246 = .ok (.aload_n 0, 1) := by decide +kernel
theorem dX13_init_1247 : decode cX13_init 1247 = .ok (.sipush 512, 3) := by decide +kernel
theorem dX13_init_1250 : decode cX13_init 1250 = .ok (.newarray .int, 2) := by decide +kernel
theorem dX13_init_1252 : decode cX13_init 1252 = .ok (.putfield 448, 3) := by decide +kernel
theorem dX13_init_1255 : decode cX13_init 1255 = .ok (.return_, 1) := by decide +kernel
end
section
/-! names of methods -/
abbrev cX0_init : ByteArray := prog_2_method_1_code
def yX0_init : MethodName := ⟨RX0, "<init>", "(LMeetingHouse$Tree;LMeetingHouse$Names;)V"⟩
abbrev cX1_init : ByteArray := prog_3_method_1_code
def yX1_init : MethodName := ⟨RX1, "<init>", "()V"⟩
abbrev cX2_init : ByteArray := prog_4_method_1_code
def yX2_init : MethodName := ⟨RX2, "<init>", "()V"⟩
abbrev cX3_init : ByteArray := prog_5_method_1_code
def yX3_init : MethodName := ⟨RX3, "<init>", "(LMeetingHouse$Coder;LMeetingHouse$Text;)V"⟩
abbrev cX3_press : ByteArray := prog_5_method_4_code
def yX3_press : MethodName := ⟨RX3, "press", "(I)Z"⟩
abbrev cX3_tally : ByteArray := prog_5_method_49_code
def yX3_tally : MethodName := ⟨RX3, "tally", "(I)I"⟩
abbrev cX3_shown : ByteArray := prog_5_method_50_code
def yX3_shown : MethodName := ⟨RX3, "shown", "(I)I"⟩
abbrev cX3_tellMeeting : ByteArray := prog_5_method_51_code
def yX3_tellMeeting : MethodName := ⟨RX3, "tellMeeting", "(II)I"⟩
abbrev cX3_tellProcess : ByteArray := prog_5_method_52_code
def yX3_tellProcess : MethodName := ⟨RX3, "tellProcess", "(II)I"⟩
abbrev cX3_tellCell : ByteArray := prog_5_method_53_code
def yX3_tellCell : MethodName := ⟨RX3, "tellCell", "(I)I"⟩
abbrev cX4_init : ByteArray := prog_6_method_1_code
def yX4_init : MethodName := ⟨RX4, "<init>", "(LMeetingHouse$Tree;)V"⟩
abbrev cX5_init : ByteArray := prog_7_method_1_code
def yX5_init : MethodName := ⟨RX5, "<init>", "(I)V"⟩
abbrev cX6_init : ByteArray := prog_8_method_1_code
def yX6_init : MethodName := ⟨RX6, "<init>", "(LMeetingHouse$Tree;LMeetingHouse$Names;)V"⟩
abbrev cX7_init : ByteArray := prog_9_method_1_code
def yX7_init : MethodName := ⟨RX7, "<init>", "()V"⟩
abbrev cX7_append : ByteArray := prog_9_method_2_code
def yX7_append : MethodName := ⟨RX7, "append", "(I)V"⟩
abbrev cX8_init : ByteArray := prog_10_method_1_code
def yX8_init : MethodName := ⟨RX8, "<init>", "(LMeetingHouse$Text;)V"⟩
abbrev cX9_init : ByteArray := prog_11_method_1_code
def yX9_init : MethodName := ⟨RX9, "<init>", "(LMeetingHouse$Tree;LMeetingHouse$Names;)V"⟩
abbrev cX10_init : ByteArray := prog_12_method_1_code
def yX10_init : MethodName := ⟨RX10, "<init>", "(LMeetingHouse$Tree;LMeetingHouse$Names;LMeetingHouse$Sides;)V"⟩
abbrev cX11_init : ByteArray := prog_1_method_1_code
def yX11_init : MethodName := ⟨RX11, "<init>", "()V"⟩
abbrev cX11_feed : ByteArray := prog_1_method_2_code
def yX11_feed : MethodName := ⟨RX11, "feed", "(IIIII)I"⟩
abbrev cX11_back : ByteArray := prog_1_method_3_code
def yX11_back : MethodName := ⟨RX11, "back", "(I)I"⟩
abbrev cX11_count : ByteArray := prog_1_method_5_code
def yX11_count : MethodName := ⟨RX11, "count", "(I)I"⟩
abbrev cX11_key : ByteArray := prog_1_method_8_code
def yX11_key : MethodName := ⟨RX11, "key", "(I)Z"⟩
abbrev cX11_output : ByteArray := prog_1_method_9_code
def yX11_output : MethodName := ⟨RX11, "output", "(I)I"⟩
abbrev cX11_process : ByteArray := prog_1_method_10_code
def yX11_process : MethodName := ⟨RX11, "process", "(II)I"⟩
abbrev cX11_cell : ByteArray := prog_1_method_11_code
def yX11_cell : MethodName := ⟨RX11, "cell", "(I)I"⟩
abbrev cX11_meeting : ByteArray := prog_1_method_12_code
def yX11_meeting : MethodName := ⟨RX11, "meeting", "(II)I"⟩
abbrev cX11_clashes : ByteArray := prog_1_method_13_code
def yX11_clashes : MethodName := ⟨RX11, "clashes", "()I"⟩
abbrev cX13_thrown : ByteArray := prog_14_method_2_code
def yX13_thrown : MethodName := ⟨RX13, "thrown", "()I"⟩
abbrev cX13_feed : ByteArray := prog_14_method_3_code
def yX13_feed : MethodName := ⟨RX13, "feed", "(IIIII)I"⟩
abbrev cX13_put : ByteArray := prog_14_method_4_code
def yX13_put : MethodName := ⟨RX13, "put", "(I)V"⟩
abbrev cX13_back : ByteArray := prog_14_method_5_code
def yX13_back : MethodName := ⟨RX13, "back", "(I)I"⟩
abbrev cX13_token : ByteArray := prog_14_method_10_code
def yX13_token : MethodName := ⟨RX13, "token", "(IIII)V"⟩
abbrev cX13_scanAll : ByteArray := prog_14_method_18_code
def yX13_scanAll : MethodName := ⟨RX13, "scanAll", "()V"⟩
abbrev cX13_stop : ByteArray := prog_14_method_20_code
def yX13_stop : MethodName := ⟨RX13, "stop", "(I)LMeetingHouseModel$Halt;"⟩
abbrev cX13_look : ByteArray := prog_14_method_21_code
def yX13_look : MethodName := ⟨RX13, "look", "()I"⟩
abbrev cX13_isAt : ByteArray := prog_14_method_26_code
def yX13_isAt : MethodName := ⟨RX13, "isAt", "(I)Z"⟩
abbrev cX13_lineAt : ByteArray := prog_14_method_33_code
def yX13_lineAt : MethodName := ⟨RX13, "lineAt", "(II)V"⟩
abbrev cX13_process : ByteArray := prog_14_method_36_code
def yX13_process : MethodName := ⟨RX13, "process", "(I)I"⟩
abbrev cX13_parses : ByteArray := prog_14_method_69_code
def yX13_parses : MethodName := ⟨RX13, "parses", "()Z"⟩
abbrev cX13_read : ByteArray := prog_14_method_171_code
def yX13_read : MethodName := ⟨RX13, "read", "()I"⟩
abbrev cX13_state : ByteArray := prog_14_method_260_code
def yX13_state : MethodName := ⟨RX13, "state", "()I"⟩
abbrev cX13_begin : ByteArray := prog_14_method_261_code
def yX13_begin : MethodName := ⟨RX13, "begin", "(I)V"⟩
abbrev cX13_run : ByteArray := prog_14_method_262_code
def yX13_run : MethodName := ⟨RX13, "run", "(I)I"⟩
abbrev cX13_key : ByteArray := prog_14_method_263_code
def yX13_key : MethodName := ⟨RX13, "key", "(I)Z"⟩
abbrev cX13_count : ByteArray := prog_14_method_264_code
def yX13_count : MethodName := ⟨RX13, "count", "(I)I"⟩
abbrev cX13_output : ByteArray := prog_14_method_265_code
def yX13_output : MethodName := ⟨RX13, "output", "(I)I"⟩
abbrev cX13_process_ : ByteArray := prog_14_method_266_code
def yX13_process_ : MethodName := ⟨RX13, "process", "(II)I"⟩
abbrev cX13_cell : ByteArray := prog_14_method_267_code
def yX13_cell : MethodName := ⟨RX13, "cell", "(I)I"⟩
abbrev cX13_meeting : ByteArray := prog_14_method_268_code
def yX13_meeting : MethodName := ⟨RX13, "meeting", "(II)I"⟩
abbrev cX13_clashes : ByteArray := prog_14_method_269_code
def yX13_clashes : MethodName := ⟨RX13, "clashes", "()I"⟩
end
section
/-! ===== BEGIN words of one list among another's, by their places ===== -/
theorem goodIn_r {big : List Cond} (ws : List Cond) (ps : List Nat) (hp : ws = ps.filterMap (fun i => big[i]?)) (h : ws.all goodWord = true) : GoodIn big ws := by
  intro w hw
  have h1 := List.all_eq_true.mp h w hw
  rw [hp] at hw
  obtain ⟨i, -, hi⟩ := List.mem_filterMap.mp hw
  have hm : w ∈ big := by first | exact List.mem_of_getElem? hi | exact List.getElem?_mem hi
  exact ⟨hm, good_of_word h1⟩
theorem goodIn_app {big a b : List Cond} (ha : GoodIn big a) (hb : GoodIn big b) : GoodIn big (a ++ b) := fun w h => (List.mem_append.mp h).elim (ha w) (hb w)
theorem goodIn_ca {big a b : List Cond} {c : Cond} (ha : GoodIn big (c :: a)) (hb : GoodIn big b) : GoodIn big (c :: (a ++ b)) := fun w h => (List.mem_cons.mp h).elim (fun e => ha w (List.mem_cons.mpr (Or.inl e))) (fun h => (List.mem_append.mp h).elim (fun h => ha w (List.mem_cons.mpr (Or.inr h))) (hb w))
theorem goodIn_sub {big ws : List Cond} (hm : ∀ w ∈ ws, w ∈ big) (h : ws.all goodWord = true) : GoodIn big ws := fun w hw => ⟨hm w hw, good_of_word (List.all_eq_true.mp h w hw)⟩
/-! ===== END ===== -/

/-! ===== BEGIN exceptions that leave a method, and their catching by the caller (launches without stack traces) ===== -/
section VXA
/-! The laws vx_back, vx_callV, vx_callS, vx_callSW, vx_throw0, vx_throwS follow proofs of the library, with one case more: JvmDerived/Free/Laws.lean (Back.of_free), Shelf42/LK1.lean (callV, callS), Shelf/KitTraced.lean (throwNew0V, throwNewS). -/
/-- where a method has thrown q: the class by its name, the cell, what was written, the world -/
def vx_T (XC : String → State → State → Prop) (st : State) (q : Addr) (t : State) (mc ms : Nat) (free : Addr → Prop) : Prop :=
  ∃ (E : String) (ce : Cell) (L : List Loc), XC E st t ∧ t.heap[q]? = some ce ∧ ce.vm = .none ∧ st.vm.findClass E = some ce.cls ∧ st.WarmedH t.vm ∧ st.sameButNew ({ t with vm := st.vm } : State) L mc ms ∧ ∀ z ∈ L, free z.base
def vx_Q (Qc : Array Value → State → Outcome → State → Prop) (XC : String → State → State → Prop) (mc ms : Nat) (free : Addr → Prop) : Array Value → State → Outcome → State → Prop := fun a st o t =>
  (Qc a st o t ∧ ∃ L, FrameEnd st o t L mc ms ∧ ∀ q ∈ L, free q.base) ∨ ∃ q, o = .threw q ∧ vx_T XC st q t mc ms free
/-- a callee that returns or throws -/
def vx_Met (l : Launch) (y : MethodName) (ws : List Cond) (rm : Room) (Pc : Array Value → State → Prop) (Qc : Array Value → State → Outcome → State → Prop) (XC : String → State → State → Prop) (mc ms : Nat) (free : Addr → Prop) : Prop :=
  MetFree l y (headSpec ws rm) Pc (fun _ _ _ _ _ => True) (vx_Q Qc XC mc ms free)
def vx_Post (XC : String → State → State → Prop) (mc ms : Nat) (free : Addr → Prop) : Pt → Array Value → Addr → Pt → Prop := fun A a q B =>
  ∃ (g : JFrame) (mk : MethodId) (t : State) (L : List Loc) (E : String) (ce : Cell), B.U.heap = t.heap ∧ B.U.vm = t.vm ∧ XC E (A.U.calling g mk a) t ∧ t.heap[q]? = some ce ∧ ce.vm = .none ∧ A.U.vm.findClass E = some ce.cls ∧ B.locs = A.locs ++ L ∧ (∀ z ∈ L, free z.base) ∧ B.cells = A.cells + mc ∧ B.slots = A.slots + ms
def vx_Back (l : Launch) (R : Room) (p : Program) (e : Env) (below : List Frame) (s : State) (sargs : Array Value) (y : MethodName) (len W9 : Nat)
    (Pre : Pt → Array Value → Prop) (Post : Pt → Array Value → Option Value → Pt → Prop) (PostX : Pt → Array Value → Addr → Pt → Prop) : Prop :=
  ∀ (m : MethodId) (meth : Method) (c : Code) (A : Pt) (g : JFrame) (ig : Instr) (mk : MethodId) (a : Array Value),
    Stand p l e R s m sargs below meth c A.U A.locs A.cells A.slots → g.method = m → g.locals.size = c.maxLocals → decode c.code g.pc = .ok (ig, len) →
    2 * g.monitorRoom + (g.stack.map fun v => v.category).sum ≤ W9 → A.U.methodNamed? y = some mk → Pre A a →
    (∃ (v : Option Value) (B : Pt), Stand p l e R s m sargs below meth c B.U B.locs B.cells B.slots ∧ Post A a v B ∧
      Steps p.tables e below (doInvoke e (A.U.setTop g) [] mk a).1 (B.U.setTop { g with pc := g.pc + len, stack := v.toList ++ g.stack })) ∨
    (∃ (q : Addr) (B : Pt), Stand p l e R s m sargs below meth c B.U B.locs B.cells B.slots ∧ PostX A a q B ∧
      Steps p.tables e below (doInvoke e (A.U.setTop g) [] mk a).1 ((B.U.setTop g).pushFrame (.throwing q)))
section Payer
variable {l : Launch} {R : Room} {p : Program} {e : Env} {below : List Frame} {s : State} {sargs : Array Value} {y : MethodName} {len W9 : Nat}
theorem vx_back {ws : List Cond} {rm : Room} {Pc : Array Value → State → Prop} {Qc : Array Value → State → Outcome → State → Prop} {XC : String → State → State → Prop} {mc ms : Nat} {free : Addr → Prop} {bytes : ByteArray} {maxL : Nat} {ret : Option FieldType}
    (hM : vx_Met l y ws rm Pc Qc XC mc ms free) (hblind : FrameBlind Pc) (hrc : rm.cells = mc) (hrs : rm.slots = ms)
    (hframes : rm.frames + 1 ≤ R.frames) (hlocals : W9 + (maxL + 11) + rm.locals ≤ R.locals)
    (hws : ∀ w ∈ ws, ∀ a' U, s.WarmedH U.vm → w.before a' U = true) (hcode : Cond.code y bytes maxL ret ∈ ws) (hinit : ∀ a' U, s.WarmedH U.vm → (Cond.initialized y.cls).before a' U = true) :
    vx_Back l R p e below s sargs y len W9 (PreOf R mc ms Pc) (PostOf Qc mc ms free) (vx_Post XC mc ms free) := by
  intro m meth c A g ig mk a X hg hsize hdg hW hn hp
  have h1 : (headSpec ws rm).pre.before a A.U = true := atoms_intro fun w hw => hws w hw _ _ X.warmed
  have h2 : (Cond.code y bytes maxL ret).before a A.U = true := hws _ hcode _ _ X.warmed
  have h3 : (Cond.initialized y.cls).before a A.U = true := hinit _ _ X.warmed
  have h4 : A.cells + (headSpec ws rm).room.cells ≤ R.cells := by rw [show (headSpec ws rm).room.cells = mc from hrc]; exact hp.1
  have h5 : A.slots + (headSpec ws rm).room.slots ≤ R.slots := by rw [show (headSpec ws rm).room.slots = ms from hrs]; exact hp.2.1
  have hPc : Pc a (A.U.calling g mk a) := hblind _ _ _ _ hp.2.2
  obtain ⟨U, Ls, c0, s0⟩ := A
  dsimp only [Pt.U, Pt.locs, Pt.cells, Pt.slots] at h1 h2 h3 h4 h5 X hn hPc ⊢
  obtain ⟨methY, cY, hmY, hcY, -, hlY, -, -, -, -⟩ := Cond.code_spec hn h2
  obtain ⟨kY, hkY, -⟩ := className_of_methodNamed hn
  have hinitY : kY.init = .initialized := Cond.initialized_spec (findClass_of_methodNamed hn) hkY h3
  have h : At U g.method c below := by rw [hg]; exact X.here
  have hlocals9 : W9 + (maxL + 11) + (headSpec ws rm).room.locals ≤ R.locals := hlocals
  have happ : (headSpec ws rm).appliesLoose y e.platform (U.calling g mk a) = true :=
    Spec.appliesLoose_calling (g := g) h hdg hn hkY hinitY
      (X.room_calling (g := g) (R' := (headSpec ws rm).room) hsize hmY hcY hframes (by rw [hlY]; omega) h4 h5) h1
  obtain ⟨mid, hmid⟩ := h.above
  have hfr : (U.setTop g).frames = (.java g :: mid) ++ below := by rw [State.frames_setTop' g h.top, hmid]; rfl
  obtain ⟨o, s₂, hsteps, -, hend, hq⟩ := Steps.callFree hM p X.admits X.cas X.clock (acts := []) hfr happ hPc trivial
  have hq' : vx_Q Qc XC mc ms free a (U.calling g mk a) o s₂ := hq
  rw [State.frames_setTop' g h.top] at hend
  obtain ⟨g₀, hg0⟩ := Option.isSome_iff_exists.mp h.top
  obtain ⟨r, hr⟩ := State.topJava?_eq_some.mp hg0
  have hr' : (({ U with heap := s₂.heap, slotsUsed := s₂.slotsUsed } : State).setVm s₂.vm).frames = .java g₀ :: r := hr
  rcases hq' with ⟨hqc, L, hfe, hL⟩ | ⟨q, rfl, E, ce, L, hx, hce, hcv, hcl, hW₂, hsm, hL⟩
  · obtain ⟨⟨v, rfl⟩, hW₂, e2, q2, q3, q4, q5, q6⟩ := id hfe
    have e3 : s₂ = ({ (U.calling g mk a).setFrames s₂.frames with heap := s₂.heap, slotsUsed := s₂.slotsUsed } : State).setVm s₂.vm := by
      have : s₂ = ({ s₂ with vm := (U.calling g mk a).vm } : State).setVm s₂.vm := rfl
      rw [e2] at this
      exact this
    obtain ⟨c₂, i₂, len₂, hc₂, hd₂, hf₂⟩ := hend
    have hW' : U.WarmedH s₂.vm := hW₂
    have hcc : c₂ = c := by
      have h1 : s₂.code? g.method = U.code? g.method := by
        rw [State.code?_eq, State.code?_eq, hW'.alike.method?]
      exact Option.some.inj (hc₂.symm.trans (h1.trans h.code))
    subst hcc
    have hlen : len₂ = len := by rw [hdg] at hd₂; cases hd₂; rfl
    subst hlen
    have hs₂ : s₂ = (({ U with heap := s₂.heap, slotsUsed := s₂.slotsUsed } : State).setVm s₂.vm).setTop { g with pc := g.pc + len₂, stack := v.toList ++ g.stack } := by
      refine e3.trans ?_
      rw [hf₂, State.calling_eq h.top, State.setFrames_setFrames, State.setTop_of_frames _ hr', hr]
      rfl
    have hsame : U.sameButNew ({ U with heap := s₂.heap, slotsUsed := s₂.slotsUsed } : State) L mc ms := by
      refine ⟨?_, q2, q3, q4, q5, q6⟩
      obtain ⟨t, ht, -⟩ := State.frames_cons hr
      show ({ U with heap := s₂.heap, slotsUsed := s₂.slotsUsed } : State) = { U.setFrames U.frames with heap := s₂.heap, slotsUsed := s₂.slotsUsed }
      rw [State.setFrames_self ht]
    subst hg
    refine Or.inl ⟨v, ⟨(({ U with heap := s₂.heap, slotsUsed := s₂.slotsUsed } : State).setVm s₂.vm), Ls ++ L, c0 + mc, s0 + ms⟩,
      ⟨X.admits, X.cas, X.clock, X.frames, X.room, X.hears, X.method, X.code, (X.here.setHeapUsed s₂.heap s₂.slotsUsed).setVm hW'.alike, X.tail, State.WarmedH.trans X.warmed hW', X.limits, X.bytes, X.same.trans (hsame.setVm s.vm)⟩,
      ⟨g, mk, s₂, L, rfl, rfl, hqc, rfl, hL, rfl, rfl⟩, ?_⟩
    show Steps p.tables e below _ ((({ U with heap := s₂.heap, slotsUsed := s₂.slotsUsed } : State).setVm s₂.vm).setTop { g with pc := g.pc + len₂, stack := v.toList ++ g.stack })
    rw [← hs₂]
    exact hsteps
  · obtain ⟨e2, q2, q3, q4, q5, q6⟩ := id hsm
    have e3 : s₂ = ({ (U.calling g mk a).setFrames s₂.frames with heap := s₂.heap, slotsUsed := s₂.slotsUsed } : State).setVm s₂.vm := by
      have : s₂ = ({ s₂ with vm := (U.calling g mk a).vm } : State).setVm s₂.vm := rfl
      rw [e2] at this
      exact this
    have hf₂ : s₂.frames = .throwing q :: .java g :: U.frames.tail := hend
    have hW' : U.WarmedH s₂.vm := hW₂
    have hs₂ : s₂ = ((({ U with heap := s₂.heap, slotsUsed := s₂.slotsUsed } : State).setVm s₂.vm).setTop g).pushFrame (.throwing q) := by
      refine e3.trans ?_
      rw [hf₂, State.calling_eq h.top, State.setFrames_setFrames, State.pushFrame, State.frames_setTop _ hr', State.setTop_of_frames _ hr', State.setFrames_setFrames, hr]
      rfl
    have hsame : U.sameButNew ({ U with heap := s₂.heap, slotsUsed := s₂.slotsUsed } : State) L mc ms := by
      refine ⟨?_, q2, q3, q4, q5, q6⟩
      obtain ⟨t, ht, -⟩ := State.frames_cons hr
      show ({ U with heap := s₂.heap, slotsUsed := s₂.slotsUsed } : State) = { U.setFrames U.frames with heap := s₂.heap, slotsUsed := s₂.slotsUsed }
      rw [State.setFrames_self ht]
    subst hg
    refine Or.inr ⟨q, ⟨(({ U with heap := s₂.heap, slotsUsed := s₂.slotsUsed } : State).setVm s₂.vm), Ls ++ L, c0 + mc, s0 + ms⟩,
      ⟨X.admits, X.cas, X.clock, X.frames, X.room, X.hears, X.method, X.code, (X.here.setHeapUsed s₂.heap s₂.slotsUsed).setVm hW'.alike, X.tail, State.WarmedH.trans X.warmed hW', X.limits, X.bytes, X.same.trans (hsame.setVm s.vm)⟩,
      ⟨g, mk, s₂, L, E, ce, rfl, rfl, hx, hce, hcv, hcl, rfl, hL, rfl, rfl⟩, ?_⟩
    show Steps p.tables e below _ (((({ U with heap := s₂.heap, slotsUsed := s₂.slotsUsed } : State).setVm s₂.vm).setTop g).pushFrame (.throwing q))
    rw [← hs₂]
    exact hsteps
end Payer
section Calls
variable {p : Program} {l : Launch} {e : Env} {R : Room} {s : State} {m : MethodId} {args : Array Value} {below : List Frame} {meth : Method} {c : Code} {T : State} {locs : List Loc} {cells slots : Nat}
theorem vx_callV (X : Stand p l e R s m args below meth c T locs cells slots) (hexec : p.tables.exec = Jvm.exec) {own C : String} {index : Nat} {y : MethodName} {bytes : ByteArray} {maxL : Nat} {ret : Option FieldType}
    (hown : s.vm.findClass own = some m.cls) (hlink : (Cond.methodLink own index y).before args s = true) (hinst : (Cond.instanceMethod y).before args s = true) (hsel : (Cond.selects C y y).before args s = true)
    (hcode : (Cond.code y bytes maxL ret).before args s = true) (hy : y.cls ≠ "java/lang/invoke/MethodHandle" ∧ y.cls ≠ "java/lang/invoke/VarHandle")
    {W9 : Nat} {Pre : Pt → Array Value → Prop} {Post : Pt → Array Value → Option Value → Pt → Prop} {PostX : Pt → Array Value → Addr → Pt → Prop} (hK : vx_Back l R p e below s args y 3 W9 Pre Post PostX)
    {b : Addr} {cellB : Cell} (hcell : T.heap[b]? = some cellB) (hobj : cellB.vm.isStatics = false) (hcls : s.vm.findClass C = some cellB.cls)
    {g : JFrame} (hg : g.method = m) (hsize : g.locals.size = c.maxLocals) {argsL rest : List Value} (hlen : ∀ sig, parseMethodDescriptor y.desc = some sig → argsL.length = sig.parameters.length)
    (hstack : g.stack = argsL.reverse ++ .ref b :: rest) (hW : 2 * g.monitorRoom + (rest.map fun v => v.category).sum ≤ W9) (hdg : decode c.code g.pc = .ok (.invokevirtual index, 3))
    (hpre : ∀ vm₁, s.WarmedH vm₁ → Pre ⟨T.setVm vm₁, locs, cells, slots⟩ (Value.ref b :: argsL).toArray) :
    (∃ (v : Option Value) (vm₁ : Vm) (B : Pt), s.WarmedH vm₁ ∧ Stand p l e R s m args below meth c B.U B.locs B.cells B.slots ∧ Post ⟨T.setVm vm₁, locs, cells, slots⟩ (Value.ref b :: argsL).toArray v B ∧
      ∀ target, Steps p.tables e below (B.U.setTop { g with pc := g.pc + 3, stack := v.toList ++ rest }) target → Steps p.tables e below (T.setTop g) target) ∨
    (∃ (q : Addr) (vm₁ : Vm) (B : Pt), s.WarmedH vm₁ ∧ Stand p l e R s m args below meth c B.U B.locs B.cells B.slots ∧ PostX ⟨T.setVm vm₁, locs, cells, slots⟩ (Value.ref b :: argsL).toArray q B ∧
      Steps p.tables e below (T.setTop g) ((B.U.setTop { g with stack := rest }).pushFrame (.throwing q))) := by
  obtain ⟨mk, methM, hnamed, hmethM, hstM, habM⟩ := Cond.instanceMethod_spec hinst
  obtain ⟨methM', cM, hmethM', -, -, -, -, -, -, hsigM⟩ := Cond.code_spec hnamed hcode
  cases hmethM.symm.trans hmethM'
  obtain ⟨c2, r2, m2, q1, q2, q3, q4, kP, hkP, hkPi⟩ := Cond.selects_spec hsel
  cases hcls.symm.trans q1
  cases (State.methodFound?_of_named hnamed hy).symm.trans q2
  cases hnamed.symm.trans q3
  have hselP : selectMethod e.platform s.vm cellB.cls mk = .method mk := by rw [Launch.admits_selectMethod X.admits]; exact q4
  obtain ⟨vm₁, X₁, hstep₁⟩ := X.invokevirtual hexec hown hlink hnamed hmethM hstM hkP hkPi hy (a := b) (cell := cellB) hcell
    (fun z h => by rw [h] at hobj; cases hobj) hselP hmethM habM hkP hkPi (g := g) hg (argsL := argsL) (rest := rest) (hlen _ hsigM) hstack hdg
  rcases hK m meth c ⟨T.setVm vm₁, locs, cells, slots⟩ { g with stack := rest } (.invokevirtual index) mk (Value.ref b :: argsL).toArray X₁ hg hsize hdg hW (X₁.named hnamed) (hpre vm₁ X₁.warmed) with ⟨v, B, X', hpost, hsteps⟩ | ⟨q, B, X', hpost, hsteps⟩
  · exact Or.inl ⟨v, vm₁, B, X₁.warmed, X', hpost, fun target h => hstep₁ _ fun acts => by rw [doInvoke_state]; exact hsteps.trans h⟩
  · exact Or.inr ⟨q, vm₁, B, X₁.warmed, X', hpost, hstep₁ _ fun acts => by rw [doInvoke_state]; exact hsteps⟩
theorem vx_callS (X : Stand p l e R s m args below meth c T locs cells slots) (hexec : p.tables.exec = Jvm.exec) {own : String} {index : Nat} {y : MethodName} {bytes : ByteArray} {maxL : Nat} {ret : Option FieldType}
    (hown : s.vm.findClass own = some m.cls) (hlink : (Cond.methodLink own index y).before args s = true) (hstat : (Cond.static y).before args s = true) (hinit : (Cond.initialized y.cls).before args s = true)
    (hcode : (Cond.code y bytes maxL ret).before args s = true) (hy : y.cls ≠ "java/lang/invoke/MethodHandle" ∧ y.cls ≠ "java/lang/invoke/VarHandle")
    {W9 : Nat} {Pre : Pt → Array Value → Prop} {Post : Pt → Array Value → Option Value → Pt → Prop} {PostX : Pt → Array Value → Addr → Pt → Prop} (hK : vx_Back l R p e below s args y 3 W9 Pre Post PostX)
    {g : JFrame} (hg : g.method = m) (hsize : g.locals.size = c.maxLocals) {argsL rest : List Value} (hlen : ∀ sig, parseMethodDescriptor y.desc = some sig → argsL.length = sig.parameters.length)
    (hstack : g.stack = argsL.reverse ++ rest) (hW : 2 * g.monitorRoom + (rest.map fun v => v.category).sum ≤ W9) (hdg : decode c.code g.pc = .ok (.invokestatic index, 3))
    (hpre : ∀ vm₁, s.WarmedH vm₁ → Pre ⟨T.setVm vm₁, locs, cells, slots⟩ argsL.toArray) :
    (∃ (v : Option Value) (vm₁ : Vm) (B : Pt), s.WarmedH vm₁ ∧ Stand p l e R s m args below meth c B.U B.locs B.cells B.slots ∧ Post ⟨T.setVm vm₁, locs, cells, slots⟩ argsL.toArray v B ∧
      ∀ target, Steps p.tables e below (B.U.setTop { g with pc := g.pc + 3, stack := v.toList ++ rest }) target → Steps p.tables e below (T.setTop g) target) ∨
    (∃ (q : Addr) (vm₁ : Vm) (B : Pt), s.WarmedH vm₁ ∧ Stand p l e R s m args below meth c B.U B.locs B.cells B.slots ∧ PostX ⟨T.setVm vm₁, locs, cells, slots⟩ argsL.toArray q B ∧
      Steps p.tables e below (T.setTop g) ((B.U.setTop { g with stack := rest }).pushFrame (.throwing q))) := by
  obtain ⟨mk, hnamed⟩ := Cond.code_named hcode
  obtain ⟨methM, cM, hmethM, -, -, -, -, -, -, hsigM⟩ := Cond.code_spec hnamed hcode
  have hstatic : methM.isStatic = true := Cond.static_spec hnamed hmethM hstat
  obtain ⟨kP, hkP, -⟩ := className_of_methodNamed hnamed
  have hinitP : kP.init = .initialized := Cond.initialized_spec (findClass_of_methodNamed hnamed) hkP hinit
  obtain ⟨vm₁, X₁, hstep₁⟩ := X.invokestatic hexec hown hlink hnamed hmethM hstatic hkP hinitP hy (g := g) hg (argsL := argsL) (rest := rest) (hlen _ hsigM) hstack hdg
  rcases hK m meth c ⟨T.setVm vm₁, locs, cells, slots⟩ { g with stack := rest } (.invokestatic index) mk argsL.toArray X₁ hg hsize hdg hW (X₁.named hnamed) (hpre vm₁ X₁.warmed) with ⟨v, B, X', hpost, hsteps⟩ | ⟨q, B, X', hpost, hsteps⟩
  · exact Or.inl ⟨v, vm₁, B, X₁.warmed, X', hpost, fun target h => hstep₁ _ fun acts => by rw [doInvoke_state]; exact hsteps.trans h⟩
  · exact Or.inr ⟨q, vm₁, B, X₁.warmed, X', hpost, hstep₁ _ fun acts => by rw [doInvoke_state]; exact hsteps⟩
end Calls
theorem vx_cls {s : State} {T : State} {vm₁ : Vm} {E : String} {k : ClassId} (hW : s.WarmedH vm₁) (h : (T.setVm vm₁).vm.findClass E = some k) : s.vm.findClass E = some k := by
  have h1 : vm₁.findClass E = some k := h
  rw [hW.alike.findClass] at h1
  exact h1
/-- the method's frame g, with q thrown over it -/
def vx_W (p : Program) (l : Launch) (e : Env) (R : Room) (s : State) (m : MethodId) (args : Array Value) (below : List Frame) (meth : Method) (c : Code) (H : Heap) (locs : List Loc) (cells slots : Nat) (Q : State → Prop) (g : JFrame) (q : Addr) : Prop :=
  ∀ T : State, T.heap = H → Stand p l e R s m args below meth c T locs cells slots → ∃ t, Steps p.tables e below ((T.setTop g).pushFrame (.throwing q)) t ∧ Q t
def vx_Run (p : Program) (l : Launch) (e : Env) (R : Room) (s : State) (m : MethodId) (args : Array Value) (below : List Frame) (meth : Method) (c : Code) (H : Heap) (locs : List Loc) (cells slots mc ms : Nat) (g : JFrame) (rest : List Value) (Qa : State → Outcome → State → Prop) (XC : String → State → State → Prop) (free : Addr → Prop) : Prop :=
  ∀ T : State, T.heap = H → Stand p l e R s m args below meth c T locs cells slots →
    (∃ (v : Option Value) (st₀ t T' : State) (L : List Loc), st₀.heap = H ∧ Stand p l e R s m args below meth c T' (locs ++ L) (cells + mc) (slots + ms) ∧ (∀ q ∈ L, free q.base) ∧ T'.heap = t.heap ∧ T'.vm = t.vm ∧ Qa st₀ (.returned v) t ∧
      Goes p e below T g T' { g with pc := g.pc + 3, stack := v.toList ++ rest }) ∨
    (∃ (q : Addr) (st₀ t T' : State) (L : List Loc) (E : String) (ce : Cell), st₀.heap = H ∧ Stand p l e R s m args below meth c T' (locs ++ L) (cells + mc) (slots + ms) ∧ (∀ z ∈ L, free z.base) ∧ T'.heap = t.heap ∧ T'.vm = t.vm ∧ XC E st₀ t ∧ t.heap[q]? = some ce ∧ ce.vm = .none ∧ s.vm.findClass E = some ce.cls ∧
      Steps p.tables e below (T.setTop g) ((T'.setTop { g with stack := rest }).pushFrame (.throwing q)))
def vx_X {S : Type} (px : S → Prop) (B : String → S → State → Prop) (A : Nat → Prop) : String → State → State → Prop := fun E st t => ∃ u : S, px u ∧ B E u t ∧ va_F A st t
section Runs
variable {p : Program} {l : Launch} {e : Env} {R : Room} {s : State} {m : MethodId} {args : Array Value} {below : List Frame} {meth : Method} {c : Code} {H : Heap} {locs : List Loc} {cells slots : Nat}
variable {y : MethodName} {bytes cc : ByteArray} {maxL nL mc ms n index : Nat} {ret : Option FieldType} {ws : List Cond} {rm : Room} {Pc : Array Value → State → Prop} {Qc : Array Value → State → Outcome → State → Prop} {XC : String → State → State → Prop} {free : Addr → Prop} {Ts : List Cond} {own C : String} {b : Addr} {As rest : List Value} {g : JFrame}
theorem vx_callBack (cb : CallB R s args own index y bytes maxL ret ws rm mc ms n) (hM : vx_Met l y ws rm Pc Qc XC mc ms free) (hbl : FrameBlind Pc) : vx_Back l R p e below s args y 3 8 (PreOf R mc ms Pc) (PostOf Qc mc ms free) (vx_Post XC mc ms free) := by
  obtain ⟨hrc, hrs, hfr, hlo, hws, hcw, -, hini, -⟩ := cb
  exact vx_back (bytes := bytes) (maxL := maxL) (ret := ret) hM hbl hrc hrs hfr hlo hws hcw (fun a' U hW => word_at hW (Or.inl (by first | rfl | simp [Cond.onTables, Cond.keeps, Cond.steady])) hini)
theorem vx_runV (S : CallFix p m c cc nL s args Ts own) (hM : vx_Met l y ws rm Pc Qc XC mc ms free) (cw : CallW R s args own C index y bytes maxL ret ws rm mc ms n) (hp : PreV s H C b Pc As)
    (hg : g.method = m) (hn : As.length = n) (hsize : g.locals.size = nL) (hstack : g.stack = As.reverse ++ .ref b :: rest) (hW : 2 * g.monitorRoom + (rest.map fun v => v.category).sum ≤ 8) (hdg : decode cc g.pc = .ok (.invokevirtual index, 3)) (hf : cells + mc ≤ R.cells ∧ slots + ms ≤ R.slots) :
    vx_Run p l e R s m args below meth c H locs cells slots mc ms g rest (Qc (Value.ref b :: As).toArray) XC free := by
  have hK : vx_Back l R p e below s args y 3 8 (PreOf R mc ms Pc) (PostOf Qc mc ms free) (vx_Post XC mc ms free) := vx_callBack cw.1 hM hp.1
  obtain ⟨⟨-, -, -, -, -, -, hcode, -, hy, hlen, hl⟩, hin, hse⟩ := cw
  obtain ⟨hx, hb, hml, ho, -⟩ := S
  obtain ⟨-, ⟨cellB, hcB, hoB, hclB⟩, hPc⟩ := hp
  intro T hT X
  rcases vx_callV X hx (C := C) (bytes := bytes) (maxL := maxL) (ret := ret) ho hl hin hse hcode hy hK (by rw [hT]; exact hcB) hoB hclB hg (hsize.trans hml.symm) (argsL := As) (rest := rest) (fun sig h => hn.trans (hlen sig h)) hstack hW (by rw [hb]; exact hdg)
    (fun vm₁ hW₁ => ⟨hf.1, hf.2, hPc (T.setVm vm₁) hT hW₁⟩) with ⟨v, vm₁, ⟨U', l2, c2, s2⟩, hW₁, X', ⟨g', mk, t, L, e1, e2, hq, h1, hL, h2, h3⟩, st⟩ | ⟨q, vm₁, ⟨U', l2, c2, s2⟩, hW₁, X', ⟨g', mk, t, L, E, ce, e1, e2, hq, hce, hcv, hcl, h1, hL, h2, h3⟩, st⟩
  · dsimp only [Pt.U, Pt.locs, Pt.cells, Pt.slots] at X' e1 e2 h1 h2 h3 st
    subst h1; subst h2; subst h3
    exact Or.inl ⟨v, (T.setVm vm₁).calling g' mk (Value.ref b :: As).toArray, t, U', L, hT, X', hL, e1, e2, hq, st⟩
  · dsimp only [Pt.U, Pt.locs, Pt.cells, Pt.slots] at X' e1 e2 h1 h2 h3 st hcl
    subst h1; subst h2; subst h3
    exact Or.inr ⟨q, (T.setVm vm₁).calling g' mk (Value.ref b :: As).toArray, t, U', L, E, ce, hT, X', hL, e1, e2, hq, hce, hcv, vx_cls hW₁ hcl, st⟩
theorem vx_runS (S : CallFix p m c cc nL s args Ts own) (hM : vx_Met l y ws rm Pc Qc XC mc ms free) (cw : CallB R s args own index y bytes maxL ret ws rm mc ms n ∧ (Cond.static y).before args s = true) (hp : PreS s H Pc As)
    (hg : g.method = m) (hn : As.length = n) (hsize : g.locals.size = nL) (hstack : g.stack = As.reverse ++ rest) (hW : 2 * g.monitorRoom + (rest.map fun v => v.category).sum ≤ 8) (hdg : decode cc g.pc = .ok (.invokestatic index, 3)) (hf : cells + mc ≤ R.cells ∧ slots + ms ≤ R.slots) :
    vx_Run p l e R s m args below meth c H locs cells slots mc ms g rest (Qc As.toArray) XC free := by
  have hK : vx_Back l R p e below s args y 3 8 (PreOf R mc ms Pc) (PostOf Qc mc ms free) (vx_Post XC mc ms free) := vx_callBack cw.1 hM hp.1
  obtain ⟨⟨-, -, -, -, -, -, hcode, hini, hy, hlen, hl⟩, hstt⟩ := cw
  obtain ⟨hx, hb, hml, ho, -⟩ := S
  intro T hT X
  rcases vx_callS X hx (bytes := bytes) (maxL := maxL) (ret := ret) ho hl hstt hini hcode hy hK hg (hsize.trans hml.symm) (argsL := As) (rest := rest) (fun sig h => hn.trans (hlen sig h)) hstack hW (by rw [hb]; exact hdg)
    (fun vm₁ hW₁ => ⟨hf.1, hf.2, hp.2 (T.setVm vm₁) hT hW₁⟩) with ⟨v, vm₁, ⟨U', l2, c2, s2⟩, hW₁, X', ⟨g', mk, t, L, e1, e2, hq, h1, hL, h2, h3⟩, st⟩ | ⟨q, vm₁, ⟨U', l2, c2, s2⟩, hW₁, X', ⟨g', mk, t, L, E, ce, e1, e2, hq, hce, hcv, hcl, h1, hL, h2, h3⟩, st⟩
  · dsimp only [Pt.U, Pt.locs, Pt.cells, Pt.slots] at X' e1 e2 h1 h2 h3 st
    subst h1; subst h2; subst h3
    exact Or.inl ⟨v, (T.setVm vm₁).calling g' mk As.toArray, t, U', L, hT, X', hL, e1, e2, hq, st⟩
  · dsimp only [Pt.U, Pt.locs, Pt.cells, Pt.slots] at X' e1 e2 h1 h2 h3 st hcl
    subst h1; subst h2; subst h3
    exact Or.inr ⟨q, (T.setVm vm₁).calling g' mk As.toArray, t, U', L, E, ce, hT, X', hL, e1, e2, hq, hce, hcv, vx_cls hW₁ hcl, st⟩
end Runs
section Rows
variable {p : Program} {l : Launch} {e : Env} {R : Room} {s : State} {m : MethodId} {args : Array Value} {below : List Frame} {meth : Method} {c : Code} {H : Heap} {locs : List Loc} {cells slots : Nat} {Q : State → Prop}
variable {mc ms : Nat} {free : Addr → Prop} {A0 A1 : Nat → Prop} {H0 : Heap} {a : Array Value} {pc : Nat} {ls : Array Slot} {st0 rest : List Value}
theorem vx_keep {st₀ t T' : State} {L : List Loc} (h0 : st₀.heap = H) (e1 : T'.heap = t.heap) (hS : va_S A0 H0 H locs) (hA : ∀ q, q < H.size → A1 q → A0 q) (hf : ∀ q, free q → A0 q) (hL : ∀ q ∈ L, free q.base) (hF : va_F A1 st₀ t) :
    H.size ≤ T'.heap.size ∧ (∀ q : Nat, q < H.size → ¬ A1 q → T'.heap[q]? = H[q]?) ∧ va_S A0 H0 T'.heap (locs ++ L) := by
  obtain ⟨hz, hk⟩ := hF
  rw [h0] at hz hk
  exact ⟨by rw [e1]; exact hz, fun q h1 h2 => by rw [e1]; exact hk q h1 h2,
    ⟨Nat.le_trans hS.1 (by rw [e1]; exact hz), fun q h1 h2 => by rw [e1, hk q (Nat.lt_of_lt_of_le h1 hS.1) (fun z => h2 (hA q (Nat.lt_of_lt_of_le h1 hS.1) z))]; exact hS.2.1 q h1 h2, fun q hq => by
      rcases List.mem_append.mp hq with h | h
      · exact hS.2.2 q h
      · exact hf _ (hL q h)⟩⟩
theorem vx_calli {S SX : Type} {post : Int32 → S → Prop} {px : SX → Prop} {B : S → State → Prop} {BX : String → SX → State → Prop} {AX : Nat → Prop} (hr : vx_Run p l e R s m args below meth c H locs cells slots mc ms (F0 m pc ls st0) rest (va_Qi post B A1 a) (vx_X px BX AX) free) (hS : va_S A0 H0 H locs) (hA : ∀ q, q < H.size → A1 q → A0 q) (hf : ∀ q, free q → A0 q) (hAX : ∀ q, q < H.size → AX q → A0 q)
    (kx : ∀ (E : String) (ce : Cell) (q9 : Addr) (u : SX) (t : State) (H1 : Heap) (locs1 : List Loc), t.heap = H1 → s.vm.Alike t.vm → px u → BX E u t → H.size ≤ H1.size → (∀ q : Nat, q < H.size → ¬ AX q → H1[q]? = H[q]?) → va_S A0 H0 H1 locs1 → H1[q9]? = some ce → ce.vm = .none → s.vm.findClass E = some ce.cls → vx_W p l e R s m args below meth c H1 locs1 (cells + mc) (slots + ms) Q (F0 m pc ls rest) q9)
    (kk : ∀ (r : Int32) (u : S) (t : State) (H1 : Heap) (locs1 : List Loc), t.heap = H1 → s.vm.Alike t.vm → post r u → B u t → H.size ≤ H1.size → (∀ q : Nat, q < H.size → ¬ A1 q → H1[q]? = H[q]?) → va_S A0 H0 H1 locs1 → W p l e R s m args below meth c H1 locs1 (cells + mc) (slots + ms) Q (F0 m (pc + 3) ls (.int r :: rest))) : W p l e R s m args below meth c H locs cells slots Q (F0 m pc ls st0) := by
  intro T hT X
  rcases hr T hT X with ⟨v, st₀, t, T', L, h0, X', hL, e1, e2, ⟨⟨r, u, hv, hp, hb⟩, hF⟩, st⟩ | ⟨q, st₀, t, T', L, E, ce, h0, X', hL, e1, e2, ⟨u, hp, hb, hF⟩, hce, hcv, hcl, st⟩
  · cases hv
    obtain ⟨k1, k2, k3⟩ := vx_keep h0 e1 hS hA hf hL hF
    obtain ⟨t2, a1, b1⟩ := kk r u t T'.heap (locs ++ L) e1.symm (by rw [← e2]; exact X'.warmed.alike) hp hb k1 k2 k3 T' rfl X'
    exact ⟨t2, st t2 a1, b1⟩
  · obtain ⟨k1, k2, k3⟩ := vx_keep h0 e1 hS hAX hf hL hF
    obtain ⟨t2, a1, b1⟩ := kx E ce q u t T'.heap (locs ++ L) e1.symm (by rw [← e2]; exact X'.warmed.alike) hp hb k1 k2 k3 (by rw [e1]; exact hce) hcv hcl T' rfl X'
    exact ⟨t2, st.trans a1, b1⟩
theorem vx_calll {S SX : Type} {post : Int64 → S → Prop} {px : SX → Prop} {B : S → State → Prop} {BX : String → SX → State → Prop} {AX : Nat → Prop} (hr : vx_Run p l e R s m args below meth c H locs cells slots mc ms (F0 m pc ls st0) rest (va_Ql post B A1 a) (vx_X px BX AX) free) (hS : va_S A0 H0 H locs) (hA : ∀ q, q < H.size → A1 q → A0 q) (hf : ∀ q, free q → A0 q) (hAX : ∀ q, q < H.size → AX q → A0 q)
    (kx : ∀ (E : String) (ce : Cell) (q9 : Addr) (u : SX) (t : State) (H1 : Heap) (locs1 : List Loc), t.heap = H1 → s.vm.Alike t.vm → px u → BX E u t → H.size ≤ H1.size → (∀ q : Nat, q < H.size → ¬ AX q → H1[q]? = H[q]?) → va_S A0 H0 H1 locs1 → H1[q9]? = some ce → ce.vm = .none → s.vm.findClass E = some ce.cls → vx_W p l e R s m args below meth c H1 locs1 (cells + mc) (slots + ms) Q (F0 m pc ls rest) q9)
    (kk : ∀ (r : Int64) (u : S) (t : State) (H1 : Heap) (locs1 : List Loc), t.heap = H1 → s.vm.Alike t.vm → post r u → B u t → H.size ≤ H1.size → (∀ q : Nat, q < H.size → ¬ A1 q → H1[q]? = H[q]?) → va_S A0 H0 H1 locs1 → W p l e R s m args below meth c H1 locs1 (cells + mc) (slots + ms) Q (F0 m (pc + 3) ls (.long r :: rest))) : W p l e R s m args below meth c H locs cells slots Q (F0 m pc ls st0) := by
  intro T hT X
  rcases hr T hT X with ⟨v, st₀, t, T', L, h0, X', hL, e1, e2, ⟨⟨r, u, hv, hp, hb⟩, hF⟩, st⟩ | ⟨q, st₀, t, T', L, E, ce, h0, X', hL, e1, e2, ⟨u, hp, hb, hF⟩, hce, hcv, hcl, st⟩
  · cases hv
    obtain ⟨k1, k2, k3⟩ := vx_keep h0 e1 hS hA hf hL hF
    obtain ⟨t2, a1, b1⟩ := kk r u t T'.heap (locs ++ L) e1.symm (by rw [← e2]; exact X'.warmed.alike) hp hb k1 k2 k3 T' rfl X'
    exact ⟨t2, st t2 a1, b1⟩
  · obtain ⟨k1, k2, k3⟩ := vx_keep h0 e1 hS hAX hf hL hF
    obtain ⟨t2, a1, b1⟩ := kx E ce q u t T'.heap (locs ++ L) e1.symm (by rw [← e2]; exact X'.warmed.alike) hp hb k1 k2 k3 (by rw [e1]; exact hce) hcv hcl T' rfl X'
    exact ⟨t2, st.trans a1, b1⟩
theorem vx_callf {S SX : Type} {post : UInt32 → S → Prop} {px : SX → Prop} {B : S → State → Prop} {BX : String → SX → State → Prop} {AX : Nat → Prop} (hr : vx_Run p l e R s m args below meth c H locs cells slots mc ms (F0 m pc ls st0) rest (va_Qf post B A1 a) (vx_X px BX AX) free) (hS : va_S A0 H0 H locs) (hA : ∀ q, q < H.size → A1 q → A0 q) (hf : ∀ q, free q → A0 q) (hAX : ∀ q, q < H.size → AX q → A0 q)
    (kx : ∀ (E : String) (ce : Cell) (q9 : Addr) (u : SX) (t : State) (H1 : Heap) (locs1 : List Loc), t.heap = H1 → s.vm.Alike t.vm → px u → BX E u t → H.size ≤ H1.size → (∀ q : Nat, q < H.size → ¬ AX q → H1[q]? = H[q]?) → va_S A0 H0 H1 locs1 → H1[q9]? = some ce → ce.vm = .none → s.vm.findClass E = some ce.cls → vx_W p l e R s m args below meth c H1 locs1 (cells + mc) (slots + ms) Q (F0 m pc ls rest) q9)
    (kk : ∀ (r : UInt32) (u : S) (t : State) (H1 : Heap) (locs1 : List Loc), t.heap = H1 → s.vm.Alike t.vm → post r u → B u t → H.size ≤ H1.size → (∀ q : Nat, q < H.size → ¬ A1 q → H1[q]? = H[q]?) → va_S A0 H0 H1 locs1 → W p l e R s m args below meth c H1 locs1 (cells + mc) (slots + ms) Q (F0 m (pc + 3) ls (.float r :: rest))) : W p l e R s m args below meth c H locs cells slots Q (F0 m pc ls st0) := by
  intro T hT X
  rcases hr T hT X with ⟨v, st₀, t, T', L, h0, X', hL, e1, e2, ⟨⟨r, u, hv, hp, hb⟩, hF⟩, st⟩ | ⟨q, st₀, t, T', L, E, ce, h0, X', hL, e1, e2, ⟨u, hp, hb, hF⟩, hce, hcv, hcl, st⟩
  · cases hv
    obtain ⟨k1, k2, k3⟩ := vx_keep h0 e1 hS hA hf hL hF
    obtain ⟨t2, a1, b1⟩ := kk r u t T'.heap (locs ++ L) e1.symm (by rw [← e2]; exact X'.warmed.alike) hp hb k1 k2 k3 T' rfl X'
    exact ⟨t2, st t2 a1, b1⟩
  · obtain ⟨k1, k2, k3⟩ := vx_keep h0 e1 hS hAX hf hL hF
    obtain ⟨t2, a1, b1⟩ := kx E ce q u t T'.heap (locs ++ L) e1.symm (by rw [← e2]; exact X'.warmed.alike) hp hb k1 k2 k3 (by rw [e1]; exact hce) hcv hcl T' rfl X'
    exact ⟨t2, st.trans a1, b1⟩
theorem vx_calld {S SX : Type} {post : UInt64 → S → Prop} {px : SX → Prop} {B : S → State → Prop} {BX : String → SX → State → Prop} {AX : Nat → Prop} (hr : vx_Run p l e R s m args below meth c H locs cells slots mc ms (F0 m pc ls st0) rest (va_Qd post B A1 a) (vx_X px BX AX) free) (hS : va_S A0 H0 H locs) (hA : ∀ q, q < H.size → A1 q → A0 q) (hf : ∀ q, free q → A0 q) (hAX : ∀ q, q < H.size → AX q → A0 q)
    (kx : ∀ (E : String) (ce : Cell) (q9 : Addr) (u : SX) (t : State) (H1 : Heap) (locs1 : List Loc), t.heap = H1 → s.vm.Alike t.vm → px u → BX E u t → H.size ≤ H1.size → (∀ q : Nat, q < H.size → ¬ AX q → H1[q]? = H[q]?) → va_S A0 H0 H1 locs1 → H1[q9]? = some ce → ce.vm = .none → s.vm.findClass E = some ce.cls → vx_W p l e R s m args below meth c H1 locs1 (cells + mc) (slots + ms) Q (F0 m pc ls rest) q9)
    (kk : ∀ (r : UInt64) (u : S) (t : State) (H1 : Heap) (locs1 : List Loc), t.heap = H1 → s.vm.Alike t.vm → post r u → B u t → H.size ≤ H1.size → (∀ q : Nat, q < H.size → ¬ A1 q → H1[q]? = H[q]?) → va_S A0 H0 H1 locs1 → W p l e R s m args below meth c H1 locs1 (cells + mc) (slots + ms) Q (F0 m (pc + 3) ls (.double r :: rest))) : W p l e R s m args below meth c H locs cells slots Q (F0 m pc ls st0) := by
  intro T hT X
  rcases hr T hT X with ⟨v, st₀, t, T', L, h0, X', hL, e1, e2, ⟨⟨r, u, hv, hp, hb⟩, hF⟩, st⟩ | ⟨q, st₀, t, T', L, E, ce, h0, X', hL, e1, e2, ⟨u, hp, hb, hF⟩, hce, hcv, hcl, st⟩
  · cases hv
    obtain ⟨k1, k2, k3⟩ := vx_keep h0 e1 hS hA hf hL hF
    obtain ⟨t2, a1, b1⟩ := kk r u t T'.heap (locs ++ L) e1.symm (by rw [← e2]; exact X'.warmed.alike) hp hb k1 k2 k3 T' rfl X'
    exact ⟨t2, st t2 a1, b1⟩
  · obtain ⟨k1, k2, k3⟩ := vx_keep h0 e1 hS hAX hf hL hF
    obtain ⟨t2, a1, b1⟩ := kx E ce q u t T'.heap (locs ++ L) e1.symm (by rw [← e2]; exact X'.warmed.alike) hp hb k1 k2 k3 (by rw [e1]; exact hce) hcv hcl T' rfl X'
    exact ⟨t2, st.trans a1, b1⟩
theorem vx_callv {S SX : Type} {post : S → Prop} {px : SX → Prop} {B : S → State → Prop} {BX : String → SX → State → Prop} {AX : Nat → Prop} (hr : vx_Run p l e R s m args below meth c H locs cells slots mc ms (F0 m pc ls st0) rest (va_Qv post B A1 a) (vx_X px BX AX) free) (hS : va_S A0 H0 H locs) (hA : ∀ q, q < H.size → A1 q → A0 q) (hf : ∀ q, free q → A0 q) (hAX : ∀ q, q < H.size → AX q → A0 q)
    (kx : ∀ (E : String) (ce : Cell) (q9 : Addr) (u : SX) (t : State) (H1 : Heap) (locs1 : List Loc), t.heap = H1 → s.vm.Alike t.vm → px u → BX E u t → H.size ≤ H1.size → (∀ q : Nat, q < H.size → ¬ AX q → H1[q]? = H[q]?) → va_S A0 H0 H1 locs1 → H1[q9]? = some ce → ce.vm = .none → s.vm.findClass E = some ce.cls → vx_W p l e R s m args below meth c H1 locs1 (cells + mc) (slots + ms) Q (F0 m pc ls rest) q9)
    (kk : ∀ (u : S) (t : State) (H1 : Heap) (locs1 : List Loc), t.heap = H1 → s.vm.Alike t.vm → post u → B u t → H.size ≤ H1.size → (∀ q : Nat, q < H.size → ¬ A1 q → H1[q]? = H[q]?) → va_S A0 H0 H1 locs1 → W p l e R s m args below meth c H1 locs1 (cells + mc) (slots + ms) Q (F0 m (pc + 3) ls (rest))) : W p l e R s m args below meth c H locs cells slots Q (F0 m pc ls st0) := by
  intro T hT X
  rcases hr T hT X with ⟨v, st₀, t, T', L, h0, X', hL, e1, e2, ⟨⟨u, hv, hp, hb⟩, hF⟩, st⟩ | ⟨q, st₀, t, T', L, E, ce, h0, X', hL, e1, e2, ⟨u, hp, hb, hF⟩, hce, hcv, hcl, st⟩
  · cases hv
    obtain ⟨k1, k2, k3⟩ := vx_keep h0 e1 hS hA hf hL hF
    obtain ⟨t2, a1, b1⟩ := kk u t T'.heap (locs ++ L) e1.symm (by rw [← e2]; exact X'.warmed.alike) hp hb k1 k2 k3 T' rfl X'
    exact ⟨t2, st t2 a1, b1⟩
  · obtain ⟨k1, k2, k3⟩ := vx_keep h0 e1 hS hAX hf hL hF
    obtain ⟨t2, a1, b1⟩ := kx E ce q u t T'.heap (locs ++ L) e1.symm (by rw [← e2]; exact X'.warmed.alike) hp hb k1 k2 k3 (by rw [e1]; exact hce) hcv hcl T' rfl X'
    exact ⟨t2, st.trans a1, b1⟩
end Rows
section Ends
variable {p : Program} {l : Launch} {e : Env} {R : Room} {s : State} {m : MethodId} {args : Array Value} {below : List Frame} {meth : Method} {c : Code} {H : Heap} {locs : List Loc} {cells slots : Nat} {Q : State → Prop}
variable {mc ms : Nat} {free : Addr → Prop} {A0 A1 : Nat → Prop} {H0 : Heap} {a : Array Value} {ls : Array Slot} {st0 rest : List Value}
variable {Qc : Array Value → State → Outcome → State → Prop} {XC : String → State → State → Prop}
/-- what a body that may throw owes at its end -/
def vx_MQ (below : List Frame) (Qc : Array Value → State → Outcome → State → Prop) (XC : String → State → State → Prop) (a : Array Value) (s : State) (mc ms : Nat) (free : Addr → Prop) : State → Prop := fun t =>
  ∃ o, t.status = .running ∧ Ended t below o ∧ vx_Q Qc XC mc ms free a s o t
theorem vx_ret {g : JFrame} {mc ms : Nat} (k : W p l e R s m args below meth c H locs cells slots (MQ below Qc args s mc ms free) g) : W p l e R s m args below meth c H locs cells slots (vx_MQ below Qc XC args s mc ms free) g := by
  intro T hT X
  obtain ⟨t, a1, o, b1, b2, b3, b4⟩ := k T hT X
  exact ⟨t, a1, o, b1, b2, Or.inl ⟨b3, b4⟩⟩
/-- not caught here: it goes on to the caller -/
theorem vx_widen {g : JFrame} {q : Addr} {k n : Nat} (h1 : cells ≤ k) (h2 : slots ≤ n) (kk : vx_W p l e R s m args below meth c H locs k n Q g q) : vx_W p l e R s m args below meth c H locs cells slots Q g q := fun T hT X => kk T hT (stand_widen X h1 h2)
theorem vx_out {pc : Nat} {E : String} {ce : Cell} {q : Addr} {mc ms : Nat} (hout : ∀ x ∈ c.exceptionTable.toList, covers x pc = false) (hlocks : meth.locks = false) (hcell : H[q]? = some ce) (hv : ce.vm = .none) (hcl : s.vm.findClass E = some ce.cls)
    (hx : ∀ t : State, t.heap = H → s.vm.Alike t.vm → XC E s t) (hf : ∀ z ∈ locs, free z.base) (hc : cells ≤ mc) (hs : slots ≤ ms) :
    vx_W p l e R s m args below meth c H locs cells slots (vx_MQ below Qc XC args s mc ms free) (F0 m pc ls rest) q := by
  intro T hT X
  obtain ⟨st1, hrun, hend, hW, hsm⟩ := X.leaveThrown q (g := F0 m pc ls rest) rfl rfl rfl hout hlocks
  have hcell9 : (T.setFrames (.throwing q :: below)).heap[q]? = some ce := by
    show T.heap[q]? = some ce
    rw [hT]; exact hcell
  exact ⟨_, st1, .threw q, hrun, hend, Or.inr ⟨q, rfl, E, ce, locs, hx _ hT hW.alike, hcell9, hv, hcl, hW, hsm.mono hc hs, hf⟩⟩
theorem vx_frame {U : State} {k n : Nat} (h : s.sameButNew ({ U with vm := s.vm } : State) locs k n) : s.heap.size ≤ U.heap.size ∧ ∀ q : Nat, q < s.heap.size → (∀ z ∈ locs, z.base ≠ q) → U.heap[q]? = s.heap[q]? := by
  obtain ⟨-, h2, -, -, -, h6⟩ := h
  refine ⟨h2, fun q hq hz => ?_⟩
  obtain ⟨c9, e1, e2, e3, e4⟩ := h6 q _ (Array.getElem?_eq_getElem hq)
  have hs : c9.slots = (s.heap[q]).slots := Array.ext_getElem? fun i => e4 i fun hm => hz _ hm rfl
  have h9 : c9 = s.heap[q] := by
    rw [hs] at e2
    exact e2
  have e5 : U.heap[q]? = some c9 := e1
  rw [e5, h9, Array.getElem?_eq_getElem hq]
/-- the words of a throw but the four that speak of the heap -/
def vx_no (w : Cond) : Bool := decide (w ≠ .isRef (.static Bundle.tN "UNASSIGNED_STACK" Bundle.steD)) && decide (w ≠ .isRef (.static Bundle.tN "SUPPRESSED_SENTINEL" Bundle.listD)) && decide (w ≠ .laysStatic Bundle.tN "UNASSIGNED_STACK" Bundle.steD) && decide (w ≠ .laysStatic Bundle.tN "SUPPRESSED_SENTINEL" Bundle.listD)
def vx_at0 (own : String) (ic : Nat) (X : String) (names : List String) : List Cond := (Bundle.ownAtoms0 own ic X names).filter vx_no
def vx_atS (own : String) (ic : Nat) (X : String) (names : List String) : List Cond := (Bundle.ownAtoms own ic X names).filter vx_no
/-- a word that the tables alone decide, or a good one -/
def vx_ot (w : Cond) : Bool := w.onTables || goodWord w
theorem vx_ot_at {args a' : Array Value} {s U : State} {w : Cond} (hW : s.WarmedH U.vm) (hvm : s.vm = U.vm) (hg : vx_ot w = true) (h : w.before args s = true) : w.before a' U = true := by
  simp only [vx_ot, Bool.or_eq_true] at hg
  rcases hg with hg | hg
  · exact va_tabs hg hvm h
  · exact word_at hW (good_of_word hg) h
/-- a list's words: the good ones out of the method's own list, the others by premises of their own -/
theorem vx_hat {args : Array Value} {s : State} {L B : List Cond} (h1 : ∀ w ∈ L.filter goodWord, w.before args s = true) (h2 : ∀ w ∈ L.filter (fun w => !goodWord w), w ∈ B) (h3 : ∀ w ∈ B, w.before args s = true) : ∀ w ∈ L, w.before args s = true := by
  intro w hw
  by_cases g : goodWord w = true
  · exact h1 w (List.mem_filter.mpr ⟨hw, g⟩)
  · refine h3 w (h2 w (List.mem_filter.mpr ⟨hw, ?_⟩))
    show (!goodWord w) = true
    cases hgw : goodWord w
    · rfl
    · exact absurd hgw g
theorem vx_c {args : Array Value} {s : State} {w : Cond} {B : List Cond} (h : w.before args s = true) (t : ∀ w ∈ B, w.before args s = true) : ∀ w' ∈ w :: B, w'.before args s = true := fun w' h' => (List.mem_cons.mp h').elim (fun e => by rw [e]; exact h) (t w')
theorem vx_n {args : Array Value} {s : State} : ∀ w ∈ ([] : List Cond), w.before args s = true := fun _ h => nomatch h
theorem vx_own {args : Array Value} {s : State} {L : List Cond} (h1 : ∀ w ∈ L.filter vx_no, w.before args s = true)
    (hU : (Cond.isRef (.static Bundle.tN "UNASSIGNED_STACK" Bundle.steD)).before args s = true) (hN : (Cond.isRef (.static Bundle.tN "SUPPRESSED_SENTINEL" Bundle.listD)).before args s = true)
    (lU : (Cond.laysStatic Bundle.tN "UNASSIGNED_STACK" Bundle.steD).before args s = true) (lN : (Cond.laysStatic Bundle.tN "SUPPRESSED_SENTINEL" Bundle.listD).before args s = true) : ∀ w ∈ L, w.before args s = true := by
  intro w hw
  by_cases e1 : w = .isRef (.static Bundle.tN "UNASSIGNED_STACK" Bundle.steD)
  · rw [e1]; exact hU
  · by_cases e2 : w = .isRef (.static Bundle.tN "SUPPRESSED_SENTINEL" Bundle.listD)
    · rw [e2]; exact hN
    · by_cases e3 : w = .laysStatic Bundle.tN "UNASSIGNED_STACK" Bundle.steD
      · rw [e3]; exact lU
      · by_cases e4 : w = .laysStatic Bundle.tN "SUPPRESSED_SENTINEL" Bundle.listD
        · rw [e4]; exact lN
        · exact h1 w (List.mem_filter.mpr ⟨hw, by unfold vx_no; rw [decide_eq_true e1, decide_eq_true e2, decide_eq_true e3, decide_eq_true e4]; rfl⟩)
/-- where a static field lies, its class's statics cell in H -/
def vx_L (C n d : String) (A : Nat → Prop) (U : State) (H : Heap) : Prop := ∃ (c : ClassId) (k : Class) (i : Nat) (f : Field) (a : Nat) (cell : Cell), U.vm.findClass C = some c ∧ U.fieldFound? C n d = some (c, k, i, f) ∧ f.isStatic = true ∧ k.statics = some a ∧ H[a]? = some cell ∧ cell.vm.isStatics = true ∧ cell.cls = c ∧ f.slot < cell.slots.size ∧ k.staticTypes[f.slot]? = some f.type ∧ ¬ A a
theorem vx_L.moved {C n d : String} {A : Nat → Prop} {u U : State} {H : Heap} (hvm : u.vm.Alike U.vm) (h : vx_L C n d A u H) : vx_L C n d A U H := by
  obtain ⟨c, k, i, f, a, cell, h1, h2, h3, h4, h5, h6, h7, h8, h9, h10⟩ := h
  obtain ⟨k', hi', he⟩ := State.fieldFound?_setVm hvm h2
  exact ⟨c, k', i, f, a, cell, by rw [hvm.findClass]; exact h1, hi', h3, by rw [he]; exact h4, h5, h6, h7, h8, by rw [he]; exact h9, h10⟩
theorem vx_L.kept {C n d : String} {A : Nat → Prop} {U : State} {H H1 : Heap} (h : vx_L C n d A U H) (hq : ∀ a : Nat, a < H.size → ¬ A a → H1[a]? = H[a]?) : vx_L C n d A U H1 := by
  obtain ⟨c, k, i, f, a, cell, h1, h2, h3, h4, h5, h6, h7, h8, h9, h10⟩ := h
  exact ⟨c, k, i, f, a, cell, h1, h2, h3, h4, by rw [hq a (Array.getElem?_eq_some_iff.mp h5).1 h10]; exact h5, h6, h7, h8, h9, h10⟩
theorem vx_L.narrow {C n d : String} {A B : Nat → Prop} {U : State} {H : Heap} (h : vx_L C n d A U H) (hAB : ∀ q, B q → A q) : vx_L C n d B U H := by
  obtain ⟨c, k, i, f, a, cell, h1, h2, h3, h4, h5, h6, h7, h8, h9, h10⟩ := h
  exact ⟨c, k, i, f, a, cell, h1, h2, h3, h4, h5, h6, h7, h8, h9, fun z => h10 (hAB _ z)⟩
theorem vx_L.word {C n d : String} {A : Nat → Prop} {s : State} {args : Array Value} (h : vx_L C n d A s s.heap) : (Cond.laysStatic C n d).before args s = true := by
  obtain ⟨c, k, i, f, a, cell, h1, h2, h3, h4, h5, h6, h7, h8, h9, -⟩ := h
  show (Cond.laysStatic C n d).holds args s none s [] = true
  exact Cond.laysStatic_of h1 h2 h3 h4 h5 h6 h7 h8 h9
/-- .. and what it holds: null or some reference -/
def vx_Zq (C n d : String) (A : Nat → Prop) (U : State) (H : Heap) : Prop := va_Zq C n d A U H ∧ vx_L C n d A U H
theorem vx_Zq.moved {C n d : String} {A : Nat → Prop} {u U : State} {H : Heap} (hvm : u.vm.Alike U.vm) (h : vx_Zq C n d A u H) : vx_Zq C n d A U H := ⟨va_Zq.moved hvm h.1, vx_L.moved hvm h.2⟩
theorem vx_Zq.kept {C n d : String} {A : Nat → Prop} {U : State} {H H1 : Heap} (h : vx_Zq C n d A U H) (hq : ∀ a : Nat, a < H.size → ¬ A a → H1[a]? = H[a]?) : vx_Zq C n d A U H1 := ⟨va_Zq.kept h.1 hq, vx_L.kept h.2 hq⟩
theorem vx_Zq.narrow {C n d : String} {A B : Nat → Prop} {U : State} {H : Heap} (h : vx_Zq C n d A U H) (hAB : ∀ q, B q → A q) : vx_Zq C n d B U H := ⟨va_Zq.narrow h.1 hAB, vx_L.narrow h.2 hAB⟩
theorem vx_Zqof {args : Array Value} {s : State} {C n d : String} {A : Nat → Prop} (hl : (Cond.laysStatic C n d).before args s = true) (hini : (Cond.initialized C).before args s = true) (h : (Cond.isRef (.static C n d)).before args s = true) (hA : ∀ a : Nat, a < s.heap.size → ¬ A a) : vx_Zq C n d A s s.heap := by
  refine ⟨va_Zqof hl hini h hA, ?_⟩
  obtain ⟨c, k, i, f, a, cell, h1, h2, h3, h4, h5, h6, h7, h8, h9⟩ := Cond.laysStatic_spec hl
  exact ⟨c, k, i, f, a, cell, h1, h2, h3, h4, h5, h6, h7, h8, h9, hA a (Array.getElem?_eq_some_iff.mp h5).1⟩
theorem vx_isRef {C n d : String} {v : Value} {A : Nat → Prop} {s : State} {args : Array Value} (h : va_Z C n d v A s s.heap) (hv : v.isRef = true) : (Cond.isRef (.static C n d)).before args s = true := by
  obtain ⟨cf, kf, fi, f, a, cell, h1, h2, h3, h4, h5, h6, h7, -⟩ := h
  have he : (Term.static C n d).eval args s none [] s = some v := by
    simp [Term.eval, State.fieldNamed?, h1, h2, h4, h5, h6, h7]
  simp only [Cond.before, Cond.holds, Cond.value, he]
  cases v <;> simp_all [Value.isRef]
theorem vx_isRefq {C n d : String} {A : Nat → Prop} {s : State} {args : Array Value} (h : va_Zq C n d A s s.heap) : (Cond.isRef (.static C n d)).before args s = true := by
  rcases h with h | ⟨t, h⟩
  · exact vx_isRef h rfl
  · exact vx_isRef h rfl
/-- the same frame, seen from here: as if the method were called anew in this heap -/
theorem vx_rebase {T : State} (X : Stand p l e R s m args below meth c T locs cells slots) {R' : Room} (hf : R'.frames ≤ R.frames) (hl : R'.locals ≤ R.locals) (hc : cells + R'.cells ≤ R.cells) (hs : slots + R'.slots ≤ R.slots) :
    Stand p l e R' ((T.setVm s.vm).setFrames (.invoking m args :: below)) m args below meth c T [] 0 0 := by
  have htop : (T.setVm s.vm).topJava?.isSome := X.here.top
  have hF : ((T.setVm s.vm).setFrames (.invoking m args :: below)).frames = .invoking m args :: below := State.frames_setFrames _ (State.cur_lt_of_top htop)
  obtain ⟨g₀, hg0⟩ := Option.isSome_iff_exists.mp htop
  obtain ⟨r, hr⟩ := State.topJava?_eq_some.mp hg0
  have hl9 : e.platform.stackLimits (T.setVm s.vm).me = e.platform.stackLimits s.me := X.limits
  have hb9 : (T.setVm s.vm).me.stackBytes = s.me.stackBytes := X.bytes
  refine ⟨X.admits, X.cas, X.clock, hF, ?_, X.hears, X.method, X.code, X.here, X.tail, X.warmed, ?_, ?_, ?_⟩
  · have h := X.room
    have hU : ((T.setVm s.vm).setFrames (.invoking m args :: below)).localsInUse = s.localsInUse := by
      rw [State.localsInUse_invoking hF (meth := meth) (c := c) X.method X.code, State.localsInUse_invoking X.frames X.method X.code]
    simp only [State.hasRoom, Bool.and_eq_true, decide_eq_true_eq] at h ⊢
    obtain ⟨⟨⟨⟨h1, h2, h3, h4, h5, h6⟩, h7⟩, h8⟩, h9⟩ := h
    rw [X.frames, List.length_cons] at h2 h3
    have q1 := X.heapSize
    have q2 := X.used
    simp only [hF, hU, List.length_cons, State.stackLimits_setFrames, State.stackBytes_setFrames, hl9, hb9]
    refine ⟨⟨⟨⟨by omega, by omega, by omega, by omega, by omega, h6⟩, ?_⟩, ?_⟩, X.book⟩
    · show T.heap.size + R'.cells ≤ e.platform.maxCells
      omega
    · show T.slotsUsed + R'.slots ≤ e.platform.maxSlots
      omega
  · rw [State.stackLimits_setFrames]; rfl
  · rw [State.stackBytes_setFrames]; rfl
  · refine ⟨?_, Nat.le_refl _, Nat.le_refl _, ?_, ?_, fun a c9 h9 => ⟨c9, h9, rfl, rfl, fun _ _ => rfl⟩⟩
    · obtain ⟨t, ht, -⟩ := State.frames_cons hr
      show T.setVm s.vm = { ((T.setVm s.vm).setFrames (.invoking m args :: below)).setFrames (T.setVm s.vm).frames with heap := T.heap, slotsUsed := T.slotsUsed }
      rw [State.setFrames_setFrames, State.setFrames_self ht]
      rfl
    · show T.slotsUsed = T.slotsUsed + ((T.heap.toList.drop T.heap.size).map (·.slots.size)).sum
      rw [List.drop_eq_nil_of_le (Nat.le_of_eq Array.length_toList)]
      rfl
    · show ((T.heap.toList.drop T.heap.size).map (·.slots.size)).sum ≤ 0
      rw [List.drop_eq_nil_of_le (Nat.le_of_eq Array.length_toList)]
      exact Nat.le_refl _
/-- 'throw new E()': new; dup; invokespecial; athrow -/
theorem vx_throw0 {cc : ByteArray} {pc : Nat} (hexec : p.tables.exec = Jvm.exec) (hb : c.code = cc) (hl : l.stackTraces = false) {own cls : String} {names : List String} {ik ic mc ms : Nat} {A : Nat → Prop}
    (hown : s.vm.findClass own = some m.cls) (hcls : Bundle.fit cls = true) (hnames : ∀ n ∈ names, Bundle.fit n = true)
    (hk : (Cond.classLink own ik cls).before args s = true) (hini : (Cond.initialized cls).before args s = true) (hat : ∀ w ∈ vx_at0 own ic cls names, w.before args s = true)
    (hgood : ∀ w ∈ Cond.classLink own ik cls :: Cond.initialized cls :: vx_at0 own ic cls names, vx_ot w = true)
    (hU : vx_Zq Bundle.tN "UNASSIGNED_STACK" Bundle.steD A s s.heap) (hN : vx_Zq Bundle.tN "SUPPRESSED_SENTINEL" Bundle.listD A s s.heap) (hS : va_S A s.heap H locs) (hsize : ls.size = c.maxLocals)
    (d0 : decode cc pc = .ok (.new ik, 3)) (d3 : decode cc (pc + 3) = .ok (.dup, 1)) (d4 : decode cc (pc + 4) = .ok (.invokespecial ic, 3)) (d7 : decode cc (pc + 7) = .ok (.athrow, 1))
    (hout : ∀ x ∈ c.exceptionTable.toList, covers x (pc + 7) = false)
    (hRframes : names.length + 3 < R.frames) (hRlocals : (rest.map fun v => v.category).sum + (13 * (names.length + 1) + 42) ≤ R.locals) (hRcells : cells + 1 ≤ R.cells) (hRslots : slots + 6 ≤ R.slots) (hlocks : meth.locks = false)
    (hx : ∀ t : State, s.vm.Alike t.vm → H.size ≤ t.heap.size → (∀ q : Nat, q < H.size → t.heap[q]? = H[q]?) → XC cls s t)
    (hf : ∀ z ∈ locs, free z.base) (hc : cells + 1 ≤ mc) (hs : slots + 6 ≤ ms) :
    W p l e R s m args below meth c H locs cells slots (vx_MQ below Qc XC args s mc ms free) (F0 m pc ls rest) := by
  intro T hT X
  have htr : e.platform.stackTraces = false := (show e.platform.stackTraces = l.stackTraces by rw [X.admits.platform]).trans hl
  have Y := vx_rebase X (R' := { frames := R.frames, locals := R.locals, cells := 1, slots := 6 }) (Nat.le_refl _) (Nat.le_refl _) hRcells hRslots
  obtain ⟨s', hA⟩ : ∃ z, z = (T.setVm s.vm).setFrames (.invoking m args :: below) := ⟨_, rfl⟩
  rw [← hA] at Y
  have hvm : s'.vm = s.vm := by rw [hA]; rfl
  have hhp : s'.heap = H := by rw [hA]; exact hT
  have hW0 : s.WarmedH s'.vm := by rw [hvm]; exact State.WarmedH.refl s
  have hat' : ∀ w ∈ vx_at0 own ic cls names, w.before args s' = true := fun w hw => vx_ot_at hW0 hvm.symm (hgood w (List.mem_cons_of_mem _ (List.mem_cons_of_mem _ hw))) (hat w hw)
  have hk' : (Cond.classLink own ik cls).before args s' = true := vx_ot_at hW0 hvm.symm (hgood _ List.mem_cons_self) hk
  have hini' : (Cond.initialized cls).before args s' = true := vx_ot_at hW0 hvm.symm (hgood _ (List.mem_cons_of_mem _ List.mem_cons_self)) hini
  have hU' : vx_Zq Bundle.tN "UNASSIGNED_STACK" Bundle.steD A s' s'.heap := by rw [hhp]; exact vx_Zq.moved hW0.alike (hU.kept hS.2.1)
  have hN' : vx_Zq Bundle.tN "SUPPRESSED_SENTINEL" Bundle.listD A s' s'.heap := by rw [hhp]; exact vx_Zq.moved hW0.alike (hN.kept hS.2.1)
  have h : ∀ w ∈ Bundle.ownAtoms0 own ic cls names, w.before args s' = true := vx_own hat' (vx_isRefq hU'.1) (vx_isRefq hN'.1) hU'.2.word hN'.2.word
  have hown' : s'.vm.findClass own = some m.cls := by rw [hvm]; exact hown
  have hins : (Cond.instantiable cls 6).before args s' = true := h _ (by simp [Bundle.ownAtoms0])
  obtain ⟨vm₁, cX, kX, hfX, hkX, -, -, X₁, st1⟩ := Y.newCold hexec (own := own) (C := cls) (index := ik) (n := 6) hown' hk' hins hini'
    (g := F0 m pc ls rest) rfl (by rw [hb]; exact d0) (Nat.le_refl _) (Nat.le_refl _)
  generalize hT1 : (T.setVm vm₁).pushCell { cls := cX, slots := kX.instanceTypes.map defaultValue, vm := .none } = T1 at X₁ st1
  have hcat : (Value.ref T.heap.size).category = 1 := rfl
  have hcellA : T1.heap[T.heap.size]? = some (freshCell cX kX) := by rw [← hT1]; exact State.heap_pushCell_size _ _
  have d3' : decode c.code (pc + 3) = .ok (.dup, 1) := by rw [hb]; exact d3
  obtain ⟨U, hsteps, hrun, hend, hW, hsame, ce, hce, hO⟩ := X₁.ctorThrow0 hexec htr (own := own) (cls := cls) (names := names) (ic := ic) hown' hcls hnames h (fun x hx => nomatch hx) hfX hkX hcellA (by rw [hhp, hT]; exact Nat.le_refl _)
    (g := { method := m, pc := pc + 4, locals := ls, stack := .ref T.heap.size :: .ref T.heap.size :: rest, locked := none }) rfl hsize rfl rfl (rest := rest) rfl
    (by rw [hb]; exact d4) (by rw [hb]; exact d7) hout hRframes (by simp only [List.map_cons, List.sum_cons, hcat]; omega) hlocks
  obtain ⟨f1, f2⟩ := vx_frame hsame
  rw [hhp] at f1 f2
  have hWs : s.WarmedH U.vm := State.WarmedH.trans hW0 hW
  have hcl : s.vm.findClass cls = some ce.cls := by
    have h9 := hO.cls
    rw [hvm] at h9
    exact h9
  have hall : s.sameButNew ({ U with vm := s.vm } : State) locs mc ms := by
    subst hA
    obtain ⟨e1, e2⟩ := hsame
    rw [State.setFrames_setFrames] at e1
    have h2 : (T.setVm s.vm).sameButNew ({ U with vm := s.vm } : State) [] (0 + 1) (0 + 6) := ⟨e1, e2⟩
    have h3 := X.same.trans h2
    rw [List.append_nil] at h3
    exact h3.mono hc hs
  refine ⟨U, ?_, .threw T.heap.size, hrun, hend, Or.inr ⟨T.heap.size, rfl, cls, ce, locs, hx U hWs.alike f1 (fun q hq => f2 q hq (fun z hz => nomatch hz)), hce, hO.vm, hcl, hWs, hall, hf⟩⟩
  refine st1 _ ?_
  show Steps p.tables e below (T1.setTop { method := m, pc := pc + 3, locals := ls, stack := .ref T.heap.size :: rest, locked := none }) _
  jvm_step X₁.here [X₁.here.top, hexec, d3', Value.category]
  exact hsteps
/-- 'throw new E("text")': new; dup; ldc; invokespecial; athrow -/
theorem vx_throwS {cc : ByteArray} {pc : Nat} (hexec : p.tables.exec = Jvm.exec) (hb : c.code = cc) (hl : l.stackTraces = false) {own cls text : String} {names : List String} {ik is ic mc ms sa : Nat} {A : Nat → Prop}
    (hown : s.vm.findClass own = some m.cls) (hcls : Bundle.fit cls = true) (hnames : ∀ n ∈ names, Bundle.fit n = true)
    (hk : (Cond.classLink own ik cls).before args s = true) (hini : (Cond.initialized cls).before args s = true) (hstr : vk_R own is text sa s) (hat : ∀ w ∈ vx_atS own ic cls names, w.before args s = true)
    (hgood : ∀ w ∈ Cond.classLink own ik cls :: Cond.initialized cls :: vx_atS own ic cls names, vx_ot w = true)
    (hU : vx_Zq Bundle.tN "UNASSIGNED_STACK" Bundle.steD A s s.heap) (hN : vx_Zq Bundle.tN "SUPPRESSED_SENTINEL" Bundle.listD A s s.heap) (hS : va_S A s.heap H locs) (hsize : ls.size = c.maxLocals)
    (d0 : decode cc pc = .ok (.new ik, 3)) (d3 : decode cc (pc + 3) = .ok (.dup, 1)) (d4 : decode cc (pc + 4) = .ok (.ldc is, 2)) (d6 : decode cc (pc + 6) = .ok (.invokespecial ic, 3)) (d9 : decode cc (pc + 9) = .ok (.athrow, 1))
    (hout : ∀ x ∈ c.exceptionTable.toList, covers x (pc + 9) = false)
    (hRframes : names.length + 3 < R.frames) (hRlocals : (rest.map fun v => v.category).sum + (13 * (names.length + 1) + 43) ≤ R.locals) (hRcells : cells + 1 ≤ R.cells) (hRslots : slots + 6 ≤ R.slots) (hlocks : meth.locks = false)
    (hx : ∀ t : State, s.vm.Alike t.vm → H.size ≤ t.heap.size → (∀ q : Nat, q < H.size → t.heap[q]? = H[q]?) → XC cls s t)
    (hf : ∀ z ∈ locs, free z.base) (hc : cells + 1 ≤ mc) (hs : slots + 6 ≤ ms) :
    W p l e R s m args below meth c H locs cells slots (vx_MQ below Qc XC args s mc ms free) (F0 m pc ls rest) := by
  intro T hT X
  have htr : e.platform.stackTraces = false := (show e.platform.stackTraces = l.stackTraces by rw [X.admits.platform]).trans hl
  have Y := vx_rebase X (R' := { frames := R.frames, locals := R.locals, cells := 1, slots := 6 }) (Nat.le_refl _) (Nat.le_refl _) hRcells hRslots
  obtain ⟨s', hA⟩ : ∃ z, z = (T.setVm s.vm).setFrames (.invoking m args :: below) := ⟨_, rfl⟩
  rw [← hA] at Y
  have hvm : s'.vm = s.vm := by rw [hA]; rfl
  have hhp : s'.heap = H := by rw [hA]; exact hT
  have hW0 : s.WarmedH s'.vm := by rw [hvm]; exact State.WarmedH.refl s
  have hat' : ∀ w ∈ vx_atS own ic cls names, w.before args s' = true := fun w hw => vx_ot_at hW0 hvm.symm (hgood w (List.mem_cons_of_mem _ (List.mem_cons_of_mem _ hw))) (hat w hw)
  have hk' : (Cond.classLink own ik cls).before args s' = true := vx_ot_at hW0 hvm.symm (hgood _ List.mem_cons_self) hk
  have hini' : (Cond.initialized cls).before args s' = true := vx_ot_at hW0 hvm.symm (hgood _ (List.mem_cons_of_mem _ List.mem_cons_self)) hini
  have hU' : vx_Zq Bundle.tN "UNASSIGNED_STACK" Bundle.steD A s' s'.heap := by rw [hhp]; exact vx_Zq.moved hW0.alike (hU.kept hS.2.1)
  have hN' : vx_Zq Bundle.tN "SUPPRESSED_SENTINEL" Bundle.listD A s' s'.heap := by rw [hhp]; exact vx_Zq.moved hW0.alike (hN.kept hS.2.1)
  have h : ∀ w ∈ Bundle.ownAtoms own ic cls names, w.before args s' = true := vx_own hat' (vx_isRefq hU'.1) (vx_isRefq hN'.1) hU'.2.word hN'.2.word
  have hown' : s'.vm.findClass own = some m.cls := by rw [hvm]; exact hown
  have hins : (Cond.instantiable cls 6).before args s' = true := h _ (by simp [Bundle.ownAtoms])
  obtain ⟨vm₁, cX, kX, hfX, hkX, -, -, X₁, st1⟩ := Y.newCold hexec (own := own) (C := cls) (index := ik) (n := 6) hown' hk' hins hini'
    (g := F0 m pc ls rest) rfl (by rw [hb]; exact d0) (Nat.le_refl _) (Nat.le_refl _)
  generalize hT1 : (T.setVm vm₁).pushCell { cls := cX, slots := kX.instanceTypes.map defaultValue, vm := .none } = T1 at X₁ st1
  have hcat : (Value.ref T.heap.size).category = 1 := rfl
  have hcellA : T1.heap[T.heap.size]? = some (freshCell cX kX) := by rw [← hT1]; exact State.heap_pushCell_size _ _
  have d3' : decode c.code (pc + 3) = .ok (.dup, 1) := by rw [hb]; exact d3
  have d4' : decode c.code (pc + 4) = .ok (.ldc is, 2) := by rw [hb]; exact d4
  have hstr' : vk_R own is text sa s' := vk_R.warm hW0 hstr
  obtain ⟨U, hsteps, hrun, hend, hW, hsame, ce, hce, hO⟩ := X₁.ctorThrowS hexec htr (own := own) (cls := cls) (names := names) (ic := ic) hown' hcls hnames h (fun x hx => nomatch hx) hfX hkX hcellA (by rw [hhp, hT]; exact Nat.le_refl _) (msg := .ref sa) rfl
    (g := { method := m, pc := pc + 6, locals := ls, stack := .ref sa :: .ref T.heap.size :: .ref T.heap.size :: rest, locked := none }) rfl hsize rfl rfl (rest := rest) rfl
    (by rw [hb]; exact d6) (by rw [hb]; exact d9) hout hRframes (by simp only [List.map_cons, List.sum_cons, hcat]; omega) hlocks
  obtain ⟨f1, f2⟩ := vx_frame hsame
  rw [hhp] at f1 f2
  have hWs : s.WarmedH U.vm := State.WarmedH.trans hW0 hW
  have hcl : s.vm.findClass cls = some ce.cls := by
    have h9 := hO.cls
    rw [hvm] at h9
    exact h9
  have hall : s.sameButNew ({ U with vm := s.vm } : State) locs mc ms := by
    subst hA
    obtain ⟨e1, e2⟩ := hsame
    rw [State.setFrames_setFrames] at e1
    have h2 : (T.setVm s.vm).sameButNew ({ U with vm := s.vm } : State) [] (0 + 1) (0 + 6) := ⟨e1, e2⟩
    have h3 := X.same.trans h2
    rw [List.append_nil] at h3
    exact h3.mono hc hs
  refine ⟨U, ?_, .threw T.heap.size, hrun, hend, Or.inr ⟨T.heap.size, rfl, cls, ce, locs, hx U hWs.alike f1 (fun q hq => f2 q hq (fun z hz => nomatch hz)), hce, hO.vm, hcl, hWs, hall, hf⟩⟩
  refine st1 _ ?_
  show Steps p.tables e below (T1.setTop { method := m, pc := pc + 3, locals := ls, stack := .ref T.heap.size :: rest, locked := none }) _
  jvm_step X₁.here [X₁.here.top, hexec, d3', Value.category]
  exact X₁.ldcString hexec (own := own) (text := text) (index := is) (a := sa) hown' hstr'.1 hstr'.2
    (g := { method := m, pc := pc + 4, locals := ls, stack := .ref T.heap.size :: .ref T.heap.size :: rest, locked := none }) rfl d4' _ hsteps
/-- 'throw new E("text")', the text by a wide index -/
theorem vx_throwSW {cc : ByteArray} {pc : Nat} (hexec : p.tables.exec = Jvm.exec) (hb : c.code = cc) (hl : l.stackTraces = false) {own cls text : String} {names : List String} {ik is ic mc ms sa : Nat} {A : Nat → Prop}
    (hown : s.vm.findClass own = some m.cls) (hcls : Bundle.fit cls = true) (hnames : ∀ n ∈ names, Bundle.fit n = true)
    (hk : (Cond.classLink own ik cls).before args s = true) (hini : (Cond.initialized cls).before args s = true) (hstr : vk_R own is text sa s) (hat : ∀ w ∈ vx_atS own ic cls names, w.before args s = true)
    (hgood : ∀ w ∈ Cond.classLink own ik cls :: Cond.initialized cls :: vx_atS own ic cls names, vx_ot w = true)
    (hU : vx_Zq Bundle.tN "UNASSIGNED_STACK" Bundle.steD A s s.heap) (hN : vx_Zq Bundle.tN "SUPPRESSED_SENTINEL" Bundle.listD A s s.heap) (hS : va_S A s.heap H locs) (hsize : ls.size = c.maxLocals)
    (d0 : decode cc pc = .ok (.new ik, 3)) (d3 : decode cc (pc + 3) = .ok (.dup, 1)) (d4 : decode cc (pc + 4) = .ok (.ldc_w is, 3)) (d7 : decode cc (pc + 7) = .ok (.invokespecial ic, 3)) (d10 : decode cc (pc + 10) = .ok (.athrow, 1))
    (hout : ∀ x ∈ c.exceptionTable.toList, covers x (pc + 10) = false)
    (hRframes : names.length + 3 < R.frames) (hRlocals : (rest.map fun v => v.category).sum + (13 * (names.length + 1) + 43) ≤ R.locals) (hRcells : cells + 1 ≤ R.cells) (hRslots : slots + 6 ≤ R.slots) (hlocks : meth.locks = false)
    (hx : ∀ t : State, s.vm.Alike t.vm → H.size ≤ t.heap.size → (∀ q : Nat, q < H.size → t.heap[q]? = H[q]?) → XC cls s t)
    (hf : ∀ z ∈ locs, free z.base) (hc : cells + 1 ≤ mc) (hs : slots + 6 ≤ ms) :
    W p l e R s m args below meth c H locs cells slots (vx_MQ below Qc XC args s mc ms free) (F0 m pc ls rest) := by
  intro T hT X
  have htr : e.platform.stackTraces = false := (show e.platform.stackTraces = l.stackTraces by rw [X.admits.platform]).trans hl
  have Y := vx_rebase X (R' := { frames := R.frames, locals := R.locals, cells := 1, slots := 6 }) (Nat.le_refl _) (Nat.le_refl _) hRcells hRslots
  obtain ⟨s', hA⟩ : ∃ z, z = (T.setVm s.vm).setFrames (.invoking m args :: below) := ⟨_, rfl⟩
  rw [← hA] at Y
  have hvm : s'.vm = s.vm := by rw [hA]; rfl
  have hhp : s'.heap = H := by rw [hA]; exact hT
  have hW0 : s.WarmedH s'.vm := by rw [hvm]; exact State.WarmedH.refl s
  have hat' : ∀ w ∈ vx_atS own ic cls names, w.before args s' = true := fun w hw => vx_ot_at hW0 hvm.symm (hgood w (List.mem_cons_of_mem _ (List.mem_cons_of_mem _ hw))) (hat w hw)
  have hk' : (Cond.classLink own ik cls).before args s' = true := vx_ot_at hW0 hvm.symm (hgood _ List.mem_cons_self) hk
  have hini' : (Cond.initialized cls).before args s' = true := vx_ot_at hW0 hvm.symm (hgood _ (List.mem_cons_of_mem _ List.mem_cons_self)) hini
  have hU' : vx_Zq Bundle.tN "UNASSIGNED_STACK" Bundle.steD A s' s'.heap := by rw [hhp]; exact vx_Zq.moved hW0.alike (hU.kept hS.2.1)
  have hN' : vx_Zq Bundle.tN "SUPPRESSED_SENTINEL" Bundle.listD A s' s'.heap := by rw [hhp]; exact vx_Zq.moved hW0.alike (hN.kept hS.2.1)
  have h : ∀ w ∈ Bundle.ownAtoms own ic cls names, w.before args s' = true := vx_own hat' (vx_isRefq hU'.1) (vx_isRefq hN'.1) hU'.2.word hN'.2.word
  have hown' : s'.vm.findClass own = some m.cls := by rw [hvm]; exact hown
  have hins : (Cond.instantiable cls 6).before args s' = true := h _ (by simp [Bundle.ownAtoms])
  obtain ⟨vm₁, cX, kX, hfX, hkX, -, -, X₁, st1⟩ := Y.newCold hexec (own := own) (C := cls) (index := ik) (n := 6) hown' hk' hins hini'
    (g := F0 m pc ls rest) rfl (by rw [hb]; exact d0) (Nat.le_refl _) (Nat.le_refl _)
  generalize hT1 : (T.setVm vm₁).pushCell { cls := cX, slots := kX.instanceTypes.map defaultValue, vm := .none } = T1 at X₁ st1
  have hcat : (Value.ref T.heap.size).category = 1 := rfl
  have hcellA : T1.heap[T.heap.size]? = some (freshCell cX kX) := by rw [← hT1]; exact State.heap_pushCell_size _ _
  have d3' : decode c.code (pc + 3) = .ok (.dup, 1) := by rw [hb]; exact d3
  have d4' : decode c.code (pc + 4) = .ok (.ldc_w is, 3) := by rw [hb]; exact d4
  have hstr' : vk_R own is text sa s' := vk_R.warm hW0 hstr
  obtain ⟨U, hsteps, hrun, hend, hW, hsame, ce, hce, hO⟩ := X₁.ctorThrowS hexec htr (own := own) (cls := cls) (names := names) (ic := ic) hown' hcls hnames h (fun x hx => nomatch hx) hfX hkX hcellA (by rw [hhp, hT]; exact Nat.le_refl _) (msg := .ref sa) rfl
    (g := { method := m, pc := pc + 7, locals := ls, stack := .ref sa :: .ref T.heap.size :: .ref T.heap.size :: rest, locked := none }) rfl hsize rfl rfl (rest := rest) rfl
    (by rw [hb]; exact d7) (by rw [hb]; exact d10) hout hRframes (by simp only [List.map_cons, List.sum_cons, hcat]; omega) hlocks
  obtain ⟨f1, f2⟩ := vx_frame hsame
  rw [hhp] at f1 f2
  have hWs : s.WarmedH U.vm := State.WarmedH.trans hW0 hW
  have hcl : s.vm.findClass cls = some ce.cls := by
    have h9 := hO.cls
    rw [hvm] at h9
    exact h9
  have hall : s.sameButNew ({ U with vm := s.vm } : State) locs mc ms := by
    subst hA
    obtain ⟨e1, e2⟩ := hsame
    rw [State.setFrames_setFrames] at e1
    have h2 : (T.setVm s.vm).sameButNew ({ U with vm := s.vm } : State) [] (0 + 1) (0 + 6) := ⟨e1, e2⟩
    have h3 := X.same.trans h2
    rw [List.append_nil] at h3
    exact h3.mono hc hs
  refine ⟨U, ?_, .threw T.heap.size, hrun, hend, Or.inr ⟨T.heap.size, rfl, cls, ce, locs, hx U hWs.alike f1 (fun q hq => f2 q hq (fun z hz => nomatch hz)), hce, hO.vm, hcl, hWs, hall, hf⟩⟩
  refine st1 _ ?_
  show Steps p.tables e below (T1.setTop { method := m, pc := pc + 3, locals := ls, stack := .ref T.heap.size :: rest, locked := none }) _
  jvm_step X₁.here [X₁.here.top, hexec, d3', Value.category]
  exact X₁.ldcStringW hexec (own := own) (text := text) (index := is) (a := sa) hown' hstr'.1 hstr'.2
    (g := { method := m, pc := pc + 4, locals := ls, stack := .ref T.heap.size :: .ref T.heap.size :: rest, locked := none }) rfl d4' _ hsteps
end Ends
section Bodies
variable {l : Launch}
theorem vx_ofW {y : MethodName} {ws ws' : List Cond} {rm : Room} {Pc : Array Value → State → Prop} {Qc : Array Value → State → Outcome → State → Prop} {XC : String → State → State → Prop} {mc ms : Nat} {free : Addr → Prop} {cc : ByteArray} {maxL : Nat} {ret : Option FieldType}
    (hy : plainName y.cls = true) (hw : ws = Cond.code y cc maxL ret :: ws')
    (body : ∀ p e s m args below meth c s₁, BodyLoose p l y (headSpec ws rm) cc maxL ret e s m args below meth c s₁ → c.maxLocals = maxL → (∀ x ∈ c.exceptionTable.toList, False) → Pc args s →
      W p l e (headSpec ws rm).room s m args below meth c s.heap [] 0 0 (vx_MQ below Qc XC args s mc ms free) (entryFrame m args maxL)) : vx_Met l y ws rm Pc Qc XC mc ms free := by
  refine MetFree.of_bodyS (code := cc) (maxLocals := maxL) (ret := ret) hy ?_ ?_
  · intro args s m h hn
    obtain ⟨meth, c, h1, h2, h3, h4, h5, h6, -, -⟩ := Cond.code_spec hn (atoms_spec (ws := ws) h _ (by rw [hw]; exact List.mem_cons_self))
    exact ⟨meth, c, h1, h2, h3, h4, h5, h6⟩
  · intro p e s m args below meth c s₁ B hml hP _
    have hh0 : s₁.heap = s.heap := by rw [B.state]; rfl
    have ht : ∀ x ∈ c.exceptionTable.toList, False := by
      obtain ⟨meth9, c9, h1, h2, -, -, -, -, h7, -⟩ := Cond.code_spec B.named (atoms_spec (ws := ws) B.pre _ (by rw [hw]; exact List.mem_cons_self))
      cases Option.some.inj (h1.symm.trans B.method)
      cases Option.some.inj (h2.symm.trans (Stand.of_body B).code)
      intro x hx
      rw [Array.isEmpty_iff.mp h7] at hx
      cases hx
    obtain ⟨t, a1, o, b1, b2, b3⟩ := body p e s m args below meth c s₁ B hml ht hP s₁ hh0 (Stand.of_body B)
    exact ⟨t, o, a1, b1, b2, b3⟩
/-- the table of a body with handlers -/
theorem vx_table {p : Program} {x y : MethodName} {S : Spec} {cc bytes : ByteArray} {maxL maxL' : Nat} {ret ret' : Option FieldType} {e : Env} {s s₁ : State} {m : MethodId} {args : Array Value} {below : List Frame} {meth : Method} {c : Code} {hh : List (Nat × Nat × Nat × Nat)}
    (B : BodyLoose p l y S cc maxL ret e s m args below meth c s₁) (h : (Cond.codeWith y bytes maxL' ret' hh).before args s = true) : c.exceptionTable.toList = tableOf hh := by
  obtain ⟨m9, meth9, c9, hn9, h1, h2, -, -, h6, -⟩ := Cond.codeWith_spec h
  cases Option.some.inj (hn9.symm.trans B.named)
  cases Option.some.inj (h1.symm.trans B.method)
  cases Option.some.inj (h2.symm.trans (Stand.of_body B).code)
  rw [← h6, table_eq]
end Bodies
end VXA
/-! ===== END ===== -/
/-! ===== BEGIN a static call of a method with an exception table ===== -/
section VXS
variable {p : Program} {l : Launch} {e : Env} {R : Room} {s : State} {m : MethodId} {args : Array Value} {below : List Frame} {meth : Method} {c : Code} {T : State} {H : Heap} {locs : List Loc} {cells slots : Nat}
abbrev vx_CSW (R : Room) (s : State) (args : Array Value) (own : String) (index : Nat) (y : MethodName) (bytes : ByteArray) (maxL : Nat) (ret : Option FieldType) (hh : List (Nat × Nat × Nat × Nat)) (ws : List Cond) (rm : Room) (mc ms n : Nat) : Prop :=
  (rm.cells = mc ∧ rm.slots = ms ∧ rm.frames + 1 ≤ R.frames ∧ 8 + (maxL + 11) + rm.locals ≤ R.locals ∧ (∀ w ∈ ws, ∀ (a' : Array Value) (U : State), s.WarmedH U.vm → w.before a' U = true) ∧ Cond.codeWith y bytes maxL ret hh ∈ ws) ∧
  (Cond.codeWith y bytes maxL ret hh).before args s = true ∧ (Cond.initialized y.cls).before args s = true ∧ (y.cls ≠ "java/lang/invoke/MethodHandle" ∧ y.cls ≠ "java/lang/invoke/VarHandle") ∧
  (∀ sig, parseMethodDescriptor y.desc = some sig → n = sig.parameters.length) ∧ (Cond.methodLink own index y).before args s = true ∧ (Cond.static y).before args s = true
theorem vx_cwSW {own : String} {index maxL mc ms : Nat} {y : MethodName} {bytes : ByteArray} {ret : Option FieldType} {hh : List (Nat × Nat × Nat × Nat)} {Ts ws ws' : List Cond} {rm : Room} (n : Nat) (ht : ∀ w ∈ Ts, w.before args s = true) (hT : GoodIn Ts (va_wsS own index y ws)) (hw : ws = Cond.codeWith y bytes maxL ret hh :: ws') (hrc : rm.cells = mc) (hrs : rm.slots = ms)
    (hd : y.cls ≠ "java/lang/invoke/MethodHandle" ∧ y.cls ≠ "java/lang/invoke/VarHandle" ∧ (parseMethodDescriptor y.desc).map (fun d => d.parameters.length) = some n) (hR : rm.frames + 1 ≤ R.frames ∧ 8 + (maxL + 11) + rm.locals ≤ R.locals) :
    vx_CSW R s args own index y bytes maxL ret hh ws rm mc ms n := by
  have ok : ∀ w ∈ va_wsS own index y ws, w.before args s = true := fun w h => ht w (hT w h).1
  have hG : GoodIn Ts ws := fun w h => hT w (by unfold va_wsS; exact List.mem_append_right _ h)
  have hc : Cond.codeWith y bytes maxL ret hh ∈ ws := by rw [hw]; exact List.mem_cons_self
  refine ⟨⟨hrc, hrs, hR.1, hR.2, pay_in ht hG, hc⟩, ht _ (hG _ hc).1, ok _ (by simp [va_wsS]), ⟨hd.1, hd.2.1⟩, fun sig h => ?_, ok _ (by simp [va_wsS]), ok _ (by simp [va_wsS])⟩
  have h2 := hd.2.2
  rw [h] at h2
  exact (Option.some.inj h2).symm
theorem vx_callSW (X : Stand p l e R s m args below meth c T locs cells slots) (hexec : p.tables.exec = Jvm.exec) {own : String} {index : Nat} {y : MethodName} {bytes : ByteArray} {maxL : Nat} {ret : Option FieldType} {hh : List (Nat × Nat × Nat × Nat)}
    (hown : s.vm.findClass own = some m.cls) (hlink : (Cond.methodLink own index y).before args s = true) (hstat : (Cond.static y).before args s = true) (hinit : (Cond.initialized y.cls).before args s = true)
    (hcode : (Cond.codeWith y bytes maxL ret hh).before args s = true) (hy : y.cls ≠ "java/lang/invoke/MethodHandle" ∧ y.cls ≠ "java/lang/invoke/VarHandle")
    {W9 : Nat} {Pre : Pt → Array Value → Prop} {Post : Pt → Array Value → Option Value → Pt → Prop} (hK : Back l R p e below s args y 3 W9 Pre Post)
    {g : JFrame} (hg : g.method = m) (hsize : g.locals.size = c.maxLocals) {argsL rest : List Value} (hlen : ∀ sig, parseMethodDescriptor y.desc = some sig → argsL.length = sig.parameters.length)
    (hstack : g.stack = argsL.reverse ++ rest) (hW : 2 * g.monitorRoom + (rest.map fun v => v.category).sum ≤ W9) (hdg : decode c.code g.pc = .ok (.invokestatic index, 3))
    (hpre : ∀ vm₁, s.WarmedH vm₁ → Pre ⟨T.setVm vm₁, locs, cells, slots⟩ argsL.toArray) :
    ∃ (v : Option Value) (vm₁ : Vm) (B : Pt), s.WarmedH vm₁ ∧ Stand p l e R s m args below meth c B.U B.locs B.cells B.slots ∧ Post ⟨T.setVm vm₁, locs, cells, slots⟩ argsL.toArray v B ∧
      ∀ target, Steps p.tables e below (B.U.setTop { g with pc := g.pc + 3, stack := v.toList ++ rest }) target → Steps p.tables e below (T.setTop g) target := by
  obtain ⟨mk, methM, cM, hnamed, hmethM, -, -, -, -, -, -, hsigM⟩ := Cond.codeWith_spec hcode
  have hstatic : methM.isStatic = true := Cond.static_spec hnamed hmethM hstat
  obtain ⟨kP, hkP, -⟩ := className_of_methodNamed hnamed
  have hinitP : kP.init = .initialized := Cond.initialized_spec (findClass_of_methodNamed hnamed) hkP hinit
  obtain ⟨vm₁, X₁, hstep₁⟩ := X.invokestatic hexec hown hlink hnamed hmethM hstatic hkP hinitP hy (g := g) hg (argsL := argsL) (rest := rest) (hlen _ hsigM) hstack hdg
  obtain ⟨v, B, X', hpost, hsteps⟩ := hK m meth c ⟨T.setVm vm₁, locs, cells, slots⟩ { g with stack := rest } (.invokestatic index) mk argsL.toArray X₁ hg hsize hdg hW (X₁.named hnamed) (hpre vm₁ X₁.warmed)
  exact ⟨v, vm₁, B, X₁.warmed, X', hpost, fun target h => hstep₁ _ fun acts => by rw [doInvoke_state]; exact hsteps.trans h⟩
theorem vx_runSW {y : MethodName} {bytes cc : ByteArray} {maxL nL mc ms n index : Nat} {ret : Option FieldType} {hh : List (Nat × Nat × Nat × Nat)} {ws : List Cond} {rm : Room} {Pc : Array Value → State → Prop} {Qc : Array Value → State → Outcome → State → Prop} {free : Addr → Prop} {Ts : List Cond} {own : String} {As rest : List Value} {g : JFrame}
    (S : CallFix p m c cc nL s args Ts own) (hM : Met l y ws rm Pc Qc mc ms free) (cw : vx_CSW R s args own index y bytes maxL ret hh ws rm mc ms n) (hp : PreS s H Pc As)
    (hg : g.method = m) (hn : As.length = n) (hsize : g.locals.size = nL) (hstack : g.stack = As.reverse ++ rest) (hW : 2 * g.monitorRoom + (rest.map fun v => v.category).sum ≤ 8) (hdg : decode cc g.pc = .ok (.invokestatic index, 3)) (hf : cells + mc ≤ R.cells ∧ slots + ms ≤ R.slots) :
    va_Run p l e R s m args below meth c H locs cells slots mc ms g rest (Qc As.toArray) (free) := by
  obtain ⟨⟨hrc, hrs, hfr, hlo, hws, hcw⟩, hcode, hini, hy, hlen, hl, hstt⟩ := cw
  have hK : Back l R p e below s args y 3 8 (PreOf R mc ms Pc) (PostOf Qc mc ms free) := va_backW (hh := hh) (bytes := bytes) (maxL := maxL) (ret := ret) hM hp.1 hrc hrs hfr hlo hws hcw (fun a' U hW => word_at hW (Or.inl (by first | rfl | simp [Cond.onTables, Cond.keeps, Cond.steady])) hini)
  obtain ⟨hx, hb, hml, ho, -⟩ := S
  intro T hT X
  obtain ⟨v, vm₁, ⟨U', l2, c2, s2⟩, hW₁, X', ⟨g', mk, t, L, e1, e2, hq, h1, hL, h2, h3⟩, st⟩ := vx_callSW X hx (hh := hh) (bytes := bytes) (maxL := maxL) (ret := ret) ho hl hstt hini hcode hy hK hg (hsize.trans hml.symm) (argsL := As) (rest := rest) (fun sig h => hn.trans (hlen sig h)) hstack hW (by rw [hb]; exact hdg)
    (fun vm₁ hW₁ => ⟨hf.1, hf.2, hp.2 (T.setVm vm₁) hT hW₁⟩)
  dsimp only [Pt.U, Pt.locs, Pt.cells, Pt.slots] at X' e1 e2 h1 h2 h3 st
  subst h1; subst h2; subst h3
  exact ⟨v, (T.setVm vm₁).calling g' mk As.toArray, t, U', L, hT, X', hL, e1, e2, hq, st⟩
/-- a thing of a world lies in the heap -/
theorem vx_lt {D : va_G} {cl : List vw_C} {ws : va_W} {H1 : Heap} (h : va_P D cl ws H1) {k : Nat} {q : Nat × va_E} (hk : ws[k]? = some q) : q.1 < H1.size := (h k q hk).lt
end VXS
/-! ===== END ===== -/
/-! ===== BEGIN methods with a table of their own: called by a name, returning or throwing ===== -/
section VXH
/-! vx_backW, vx_callVX, vx_callSX, vx_callVW, vx_runVW, vx_runVX, vx_runSX, vx_ofWH follow the same proofs as their sisters above (Free/Laws.lean, Shelf42/LK1.lean); vx_outP calls Shelf42/NT130.lean (outThrough). -/
section
variable {l : Launch} {R : Room} {p : Program} {e : Env} {below : List Frame} {s : State} {sargs : Array Value} {y : MethodName} {len W9 : Nat}
theorem vx_backW {ws : List Cond} {rm : Room} {Pc : Array Value → State → Prop} {Qc : Array Value → State → Outcome → State → Prop} {XC : String → State → State → Prop} {mc ms : Nat} {free : Addr → Prop} {bytes : ByteArray} {maxL : Nat} {ret : Option FieldType} {hh : List (Nat × Nat × Nat × Nat)}
    (hM : vx_Met l y ws rm Pc Qc XC mc ms free) (hblind : FrameBlind Pc) (hrc : rm.cells = mc) (hrs : rm.slots = ms)
    (hframes : rm.frames + 1 ≤ R.frames) (hlocals : W9 + (maxL + 11) + rm.locals ≤ R.locals)
    (hws : ∀ w ∈ ws, ∀ a' U, s.WarmedH U.vm → w.before a' U = true) (hcode : Cond.codeWith y bytes maxL ret hh ∈ ws) (hinit : ∀ a' U, s.WarmedH U.vm → (Cond.initialized y.cls).before a' U = true) :
    vx_Back l R p e below s sargs y len W9 (PreOf R mc ms Pc) (PostOf Qc mc ms free) (vx_Post XC mc ms free) := by
  intro m meth c A g ig mk a X hg hsize hdg hW hn hp
  have h1 : (headSpec ws rm).pre.before a A.U = true := atoms_intro fun w hw => hws w hw _ _ X.warmed
  have h2 : (Cond.codeWith y bytes maxL ret hh).before a A.U = true := hws _ hcode _ _ X.warmed
  have h3 : (Cond.initialized y.cls).before a A.U = true := hinit _ _ X.warmed
  have h4 : A.cells + (headSpec ws rm).room.cells ≤ R.cells := by rw [show (headSpec ws rm).room.cells = mc from hrc]; exact hp.1
  have h5 : A.slots + (headSpec ws rm).room.slots ≤ R.slots := by rw [show (headSpec ws rm).room.slots = ms from hrs]; exact hp.2.1
  have hPc : Pc a (A.U.calling g mk a) := hblind _ _ _ _ hp.2.2
  obtain ⟨U, Ls, c0, s0⟩ := A
  dsimp only [Pt.U, Pt.locs, Pt.cells, Pt.slots] at h1 h2 h3 h4 h5 X hn hPc ⊢
  obtain ⟨m9, methY, cY, hn9, hmY, hcY, -, hlY, -⟩ := Cond.codeWith_spec h2
  cases Option.some.inj (hn9.symm.trans hn)
  obtain ⟨kY, hkY, -⟩ := className_of_methodNamed hn
  have hinitY : kY.init = .initialized := Cond.initialized_spec (findClass_of_methodNamed hn) hkY h3
  have h : At U g.method c below := by rw [hg]; exact X.here
  have hlocals9 : W9 + (maxL + 11) + (headSpec ws rm).room.locals ≤ R.locals := hlocals
  have happ : (headSpec ws rm).appliesLoose y e.platform (U.calling g mk a) = true :=
    Spec.appliesLoose_calling (g := g) h hdg hn hkY hinitY
      (X.room_calling (g := g) (R' := (headSpec ws rm).room) hsize hmY hcY hframes (by rw [hlY]; omega) h4 h5) h1
  obtain ⟨mid, hmid⟩ := h.above
  have hfr : (U.setTop g).frames = (.java g :: mid) ++ below := by rw [State.frames_setTop' g h.top, hmid]; rfl
  obtain ⟨o, s₂, hsteps, -, hend, hq⟩ := Steps.callFree hM p X.admits X.cas X.clock (acts := []) hfr happ hPc trivial
  have hq' : vx_Q Qc XC mc ms free a (U.calling g mk a) o s₂ := hq
  rw [State.frames_setTop' g h.top] at hend
  obtain ⟨g₀, hg0⟩ := Option.isSome_iff_exists.mp h.top
  obtain ⟨r, hr⟩ := State.topJava?_eq_some.mp hg0
  have hr' : (({ U with heap := s₂.heap, slotsUsed := s₂.slotsUsed } : State).setVm s₂.vm).frames = .java g₀ :: r := hr
  rcases hq' with ⟨hqc, L, hfe, hL⟩ | ⟨q, rfl, E, ce, L, hx, hce, hcv, hcl, hW₂, hsm, hL⟩
  · obtain ⟨⟨v, rfl⟩, hW₂, e2, q2, q3, q4, q5, q6⟩ := id hfe
    have e3 : s₂ = ({ (U.calling g mk a).setFrames s₂.frames with heap := s₂.heap, slotsUsed := s₂.slotsUsed } : State).setVm s₂.vm := by
      have : s₂ = ({ s₂ with vm := (U.calling g mk a).vm } : State).setVm s₂.vm := rfl
      rw [e2] at this
      exact this
    obtain ⟨c₂, i₂, len₂, hc₂, hd₂, hf₂⟩ := hend
    have hW' : U.WarmedH s₂.vm := hW₂
    have hcc : c₂ = c := by
      have h1 : s₂.code? g.method = U.code? g.method := by
        rw [State.code?_eq, State.code?_eq, hW'.alike.method?]
      exact Option.some.inj (hc₂.symm.trans (h1.trans h.code))
    subst hcc
    have hlen : len₂ = len := by rw [hdg] at hd₂; cases hd₂; rfl
    subst hlen
    have hs₂ : s₂ = (({ U with heap := s₂.heap, slotsUsed := s₂.slotsUsed } : State).setVm s₂.vm).setTop { g with pc := g.pc + len₂, stack := v.toList ++ g.stack } := by
      refine e3.trans ?_
      rw [hf₂, State.calling_eq h.top, State.setFrames_setFrames, State.setTop_of_frames _ hr', hr]
      rfl
    have hsame : U.sameButNew ({ U with heap := s₂.heap, slotsUsed := s₂.slotsUsed } : State) L mc ms := by
      refine ⟨?_, q2, q3, q4, q5, q6⟩
      obtain ⟨t, ht, -⟩ := State.frames_cons hr
      show ({ U with heap := s₂.heap, slotsUsed := s₂.slotsUsed } : State) = { U.setFrames U.frames with heap := s₂.heap, slotsUsed := s₂.slotsUsed }
      rw [State.setFrames_self ht]
    subst hg
    refine Or.inl ⟨v, ⟨(({ U with heap := s₂.heap, slotsUsed := s₂.slotsUsed } : State).setVm s₂.vm), Ls ++ L, c0 + mc, s0 + ms⟩,
      ⟨X.admits, X.cas, X.clock, X.frames, X.room, X.hears, X.method, X.code, (X.here.setHeapUsed s₂.heap s₂.slotsUsed).setVm hW'.alike, X.tail, State.WarmedH.trans X.warmed hW', X.limits, X.bytes, X.same.trans (hsame.setVm s.vm)⟩,
      ⟨g, mk, s₂, L, rfl, rfl, hqc, rfl, hL, rfl, rfl⟩, ?_⟩
    show Steps p.tables e below _ ((({ U with heap := s₂.heap, slotsUsed := s₂.slotsUsed } : State).setVm s₂.vm).setTop { g with pc := g.pc + len₂, stack := v.toList ++ g.stack })
    rw [← hs₂]
    exact hsteps
  · obtain ⟨e2, q2, q3, q4, q5, q6⟩ := id hsm
    have e3 : s₂ = ({ (U.calling g mk a).setFrames s₂.frames with heap := s₂.heap, slotsUsed := s₂.slotsUsed } : State).setVm s₂.vm := by
      have : s₂ = ({ s₂ with vm := (U.calling g mk a).vm } : State).setVm s₂.vm := rfl
      rw [e2] at this
      exact this
    have hf₂ : s₂.frames = .throwing q :: .java g :: U.frames.tail := hend
    have hW' : U.WarmedH s₂.vm := hW₂
    have hs₂ : s₂ = ((({ U with heap := s₂.heap, slotsUsed := s₂.slotsUsed } : State).setVm s₂.vm).setTop g).pushFrame (.throwing q) := by
      refine e3.trans ?_
      rw [hf₂, State.calling_eq h.top, State.setFrames_setFrames, State.pushFrame, State.frames_setTop _ hr', State.setTop_of_frames _ hr', State.setFrames_setFrames, hr]
      rfl
    have hsame : U.sameButNew ({ U with heap := s₂.heap, slotsUsed := s₂.slotsUsed } : State) L mc ms := by
      refine ⟨?_, q2, q3, q4, q5, q6⟩
      obtain ⟨t, ht, -⟩ := State.frames_cons hr
      show ({ U with heap := s₂.heap, slotsUsed := s₂.slotsUsed } : State) = { U.setFrames U.frames with heap := s₂.heap, slotsUsed := s₂.slotsUsed }
      rw [State.setFrames_self ht]
    subst hg
    refine Or.inr ⟨q, ⟨(({ U with heap := s₂.heap, slotsUsed := s₂.slotsUsed } : State).setVm s₂.vm), Ls ++ L, c0 + mc, s0 + ms⟩,
      ⟨X.admits, X.cas, X.clock, X.frames, X.room, X.hears, X.method, X.code, (X.here.setHeapUsed s₂.heap s₂.slotsUsed).setVm hW'.alike, X.tail, State.WarmedH.trans X.warmed hW', X.limits, X.bytes, X.same.trans (hsame.setVm s.vm)⟩,
      ⟨g, mk, s₂, L, E, ce, rfl, rfl, hx, hce, hcv, hcl, rfl, hL, rfl, rfl⟩, ?_⟩
    show Steps p.tables e below _ (((({ U with heap := s₂.heap, slotsUsed := s₂.slotsUsed } : State).setVm s₂.vm).setTop g).pushFrame (.throwing q))
    rw [← hs₂]
    exact hsteps
end
variable {p : Program} {l : Launch} {e : Env} {R : Room} {s : State} {m : MethodId} {args : Array Value} {below : List Frame} {meth : Method} {c : Code} {T : State} {H : Heap} {locs : List Loc} {cells slots : Nat}
theorem vx_callVX (X : Stand p l e R s m args below meth c T locs cells slots) (hexec : p.tables.exec = Jvm.exec) {own C : String} {index : Nat} {y : MethodName} {bytes : ByteArray} {maxL : Nat} {ret : Option FieldType} {hh : List (Nat × Nat × Nat × Nat)}
    (hown : s.vm.findClass own = some m.cls) (hlink : (Cond.methodLink own index y).before args s = true) (hinst : (Cond.instanceMethod y).before args s = true) (hsel : (Cond.selects C y y).before args s = true)
    (hcode : (Cond.codeWith y bytes maxL ret hh).before args s = true) (hy : y.cls ≠ "java/lang/invoke/MethodHandle" ∧ y.cls ≠ "java/lang/invoke/VarHandle")
    {W9 : Nat} {Pre : Pt → Array Value → Prop} {Post : Pt → Array Value → Option Value → Pt → Prop} {PostX : Pt → Array Value → Addr → Pt → Prop} (hK : vx_Back l R p e below s args y 3 W9 Pre Post PostX)
    {b : Addr} {cellB : Cell} (hcell : T.heap[b]? = some cellB) (hobj : cellB.vm.isStatics = false) (hcls : s.vm.findClass C = some cellB.cls)
    {g : JFrame} (hg : g.method = m) (hsize : g.locals.size = c.maxLocals) {argsL rest : List Value} (hlen : ∀ sig, parseMethodDescriptor y.desc = some sig → argsL.length = sig.parameters.length)
    (hstack : g.stack = argsL.reverse ++ .ref b :: rest) (hW : 2 * g.monitorRoom + (rest.map fun v => v.category).sum ≤ W9) (hdg : decode c.code g.pc = .ok (.invokevirtual index, 3))
    (hpre : ∀ vm₁, s.WarmedH vm₁ → Pre ⟨T.setVm vm₁, locs, cells, slots⟩ (Value.ref b :: argsL).toArray) :
    (∃ (v : Option Value) (vm₁ : Vm) (B : Pt), s.WarmedH vm₁ ∧ Stand p l e R s m args below meth c B.U B.locs B.cells B.slots ∧ Post ⟨T.setVm vm₁, locs, cells, slots⟩ (Value.ref b :: argsL).toArray v B ∧
      ∀ target, Steps p.tables e below (B.U.setTop { g with pc := g.pc + 3, stack := v.toList ++ rest }) target → Steps p.tables e below (T.setTop g) target) ∨
    (∃ (q : Addr) (vm₁ : Vm) (B : Pt), s.WarmedH vm₁ ∧ Stand p l e R s m args below meth c B.U B.locs B.cells B.slots ∧ PostX ⟨T.setVm vm₁, locs, cells, slots⟩ (Value.ref b :: argsL).toArray q B ∧
      Steps p.tables e below (T.setTop g) ((B.U.setTop { g with stack := rest }).pushFrame (.throwing q))) := by
  obtain ⟨mk, methM, hnamed, hmethM, hstM, habM⟩ := Cond.instanceMethod_spec hinst
  obtain ⟨m8, methM', cM, hn8, hmethM', -, -, -, -, -, -, hsigM⟩ := Cond.codeWith_spec hcode
  cases Option.some.inj (hn8.symm.trans hnamed)
  cases hmethM.symm.trans hmethM'
  obtain ⟨c2, r2, m2, q1, q2, q3, q4, kP, hkP, hkPi⟩ := Cond.selects_spec hsel
  cases hcls.symm.trans q1
  cases (State.methodFound?_of_named hnamed hy).symm.trans q2
  cases hnamed.symm.trans q3
  have hselP : selectMethod e.platform s.vm cellB.cls mk = .method mk := by rw [Launch.admits_selectMethod X.admits]; exact q4
  obtain ⟨vm₁, X₁, hstep₁⟩ := X.invokevirtual hexec hown hlink hnamed hmethM hstM hkP hkPi hy (a := b) (cell := cellB) hcell
    (fun z h => by rw [h] at hobj; cases hobj) hselP hmethM habM hkP hkPi (g := g) hg (argsL := argsL) (rest := rest) (hlen _ hsigM) hstack hdg
  rcases hK m meth c ⟨T.setVm vm₁, locs, cells, slots⟩ { g with stack := rest } (.invokevirtual index) mk (Value.ref b :: argsL).toArray X₁ hg hsize hdg hW (X₁.named hnamed) (hpre vm₁ X₁.warmed) with ⟨v, B, X', hpost, hsteps⟩ | ⟨q, B, X', hpost, hsteps⟩
  · exact Or.inl ⟨v, vm₁, B, X₁.warmed, X', hpost, fun target h => hstep₁ _ fun acts => by rw [doInvoke_state]; exact hsteps.trans h⟩
  · exact Or.inr ⟨q, vm₁, B, X₁.warmed, X', hpost, hstep₁ _ fun acts => by rw [doInvoke_state]; exact hsteps⟩
theorem vx_callSX (X : Stand p l e R s m args below meth c T locs cells slots) (hexec : p.tables.exec = Jvm.exec) {own : String} {index : Nat} {y : MethodName} {bytes : ByteArray} {maxL : Nat} {ret : Option FieldType} {hh : List (Nat × Nat × Nat × Nat)}
    (hown : s.vm.findClass own = some m.cls) (hlink : (Cond.methodLink own index y).before args s = true) (hstat : (Cond.static y).before args s = true) (hinit : (Cond.initialized y.cls).before args s = true)
    (hcode : (Cond.codeWith y bytes maxL ret hh).before args s = true) (hy : y.cls ≠ "java/lang/invoke/MethodHandle" ∧ y.cls ≠ "java/lang/invoke/VarHandle")
    {W9 : Nat} {Pre : Pt → Array Value → Prop} {Post : Pt → Array Value → Option Value → Pt → Prop} {PostX : Pt → Array Value → Addr → Pt → Prop} (hK : vx_Back l R p e below s args y 3 W9 Pre Post PostX)
    {g : JFrame} (hg : g.method = m) (hsize : g.locals.size = c.maxLocals) {argsL rest : List Value} (hlen : ∀ sig, parseMethodDescriptor y.desc = some sig → argsL.length = sig.parameters.length)
    (hstack : g.stack = argsL.reverse ++ rest) (hW : 2 * g.monitorRoom + (rest.map fun v => v.category).sum ≤ W9) (hdg : decode c.code g.pc = .ok (.invokestatic index, 3))
    (hpre : ∀ vm₁, s.WarmedH vm₁ → Pre ⟨T.setVm vm₁, locs, cells, slots⟩ argsL.toArray) :
    (∃ (v : Option Value) (vm₁ : Vm) (B : Pt), s.WarmedH vm₁ ∧ Stand p l e R s m args below meth c B.U B.locs B.cells B.slots ∧ Post ⟨T.setVm vm₁, locs, cells, slots⟩ argsL.toArray v B ∧
      ∀ target, Steps p.tables e below (B.U.setTop { g with pc := g.pc + 3, stack := v.toList ++ rest }) target → Steps p.tables e below (T.setTop g) target) ∨
    (∃ (q : Addr) (vm₁ : Vm) (B : Pt), s.WarmedH vm₁ ∧ Stand p l e R s m args below meth c B.U B.locs B.cells B.slots ∧ PostX ⟨T.setVm vm₁, locs, cells, slots⟩ argsL.toArray q B ∧
      Steps p.tables e below (T.setTop g) ((B.U.setTop { g with stack := rest }).pushFrame (.throwing q))) := by
  obtain ⟨mk, methM, cM, hnamed, hmethM, -, -, -, -, -, -, hsigM⟩ := Cond.codeWith_spec hcode
  have hstatic : methM.isStatic = true := Cond.static_spec hnamed hmethM hstat
  obtain ⟨kP, hkP, -⟩ := className_of_methodNamed hnamed
  have hinitP : kP.init = .initialized := Cond.initialized_spec (findClass_of_methodNamed hnamed) hkP hinit
  obtain ⟨vm₁, X₁, hstep₁⟩ := X.invokestatic hexec hown hlink hnamed hmethM hstatic hkP hinitP hy (g := g) hg (argsL := argsL) (rest := rest) (hlen _ hsigM) hstack hdg
  rcases hK m meth c ⟨T.setVm vm₁, locs, cells, slots⟩ { g with stack := rest } (.invokestatic index) mk argsL.toArray X₁ hg hsize hdg hW (X₁.named hnamed) (hpre vm₁ X₁.warmed) with ⟨v, B, X', hpost, hsteps⟩ | ⟨q, B, X', hpost, hsteps⟩
  · exact Or.inl ⟨v, vm₁, B, X₁.warmed, X', hpost, fun target h => hstep₁ _ fun acts => by rw [doInvoke_state]; exact hsteps.trans h⟩
  · exact Or.inr ⟨q, vm₁, B, X₁.warmed, X', hpost, hstep₁ _ fun acts => by rw [doInvoke_state]; exact hsteps⟩
theorem vx_callVW (X : Stand p l e R s m args below meth c T locs cells slots) (hexec : p.tables.exec = Jvm.exec) {own C : String} {index : Nat} {y : MethodName} {bytes : ByteArray} {maxL : Nat} {ret : Option FieldType} {hh : List (Nat × Nat × Nat × Nat)}
    (hown : s.vm.findClass own = some m.cls) (hlink : (Cond.methodLink own index y).before args s = true) (hinst : (Cond.instanceMethod y).before args s = true) (hsel : (Cond.selects C y y).before args s = true)
    (hcode : (Cond.codeWith y bytes maxL ret hh).before args s = true) (hy : y.cls ≠ "java/lang/invoke/MethodHandle" ∧ y.cls ≠ "java/lang/invoke/VarHandle")
    {W9 : Nat} {Pre : Pt → Array Value → Prop} {Post : Pt → Array Value → Option Value → Pt → Prop} (hK : Back l R p e below s args y 3 W9 Pre Post)
    {b : Addr} {cellB : Cell} (hcell : T.heap[b]? = some cellB) (hobj : cellB.vm.isStatics = false) (hcls : s.vm.findClass C = some cellB.cls)
    {g : JFrame} (hg : g.method = m) (hsize : g.locals.size = c.maxLocals) {argsL rest : List Value} (hlen : ∀ sig, parseMethodDescriptor y.desc = some sig → argsL.length = sig.parameters.length)
    (hstack : g.stack = argsL.reverse ++ .ref b :: rest) (hW : 2 * g.monitorRoom + (rest.map fun v => v.category).sum ≤ W9) (hdg : decode c.code g.pc = .ok (.invokevirtual index, 3))
    (hpre : ∀ vm₁, s.WarmedH vm₁ → Pre ⟨T.setVm vm₁, locs, cells, slots⟩ (Value.ref b :: argsL).toArray) :
    ∃ (v : Option Value) (vm₁ : Vm) (B : Pt), s.WarmedH vm₁ ∧ Stand p l e R s m args below meth c B.U B.locs B.cells B.slots ∧ Post ⟨T.setVm vm₁, locs, cells, slots⟩ (Value.ref b :: argsL).toArray v B ∧
      ∀ target, Steps p.tables e below (B.U.setTop { g with pc := g.pc + 3, stack := v.toList ++ rest }) target → Steps p.tables e below (T.setTop g) target := by
  obtain ⟨mk, methM, hnamed, hmethM, hstM, habM⟩ := Cond.instanceMethod_spec hinst
  obtain ⟨m8, methM', cM, hn8, hmethM', -, -, -, -, -, -, hsigM⟩ := Cond.codeWith_spec hcode
  cases Option.some.inj (hn8.symm.trans hnamed)
  cases hmethM.symm.trans hmethM'
  obtain ⟨c2, r2, m2, q1, q2, q3, q4, kP, hkP, hkPi⟩ := Cond.selects_spec hsel
  cases hcls.symm.trans q1
  cases (State.methodFound?_of_named hnamed hy).symm.trans q2
  cases hnamed.symm.trans q3
  have hselP : selectMethod e.platform s.vm cellB.cls mk = .method mk := by rw [Launch.admits_selectMethod X.admits]; exact q4
  obtain ⟨vm₁, X₁, hstep₁⟩ := X.invokevirtual hexec hown hlink hnamed hmethM hstM hkP hkPi hy (a := b) (cell := cellB) hcell
    (fun z h => by rw [h] at hobj; cases hobj) hselP hmethM habM hkP hkPi (g := g) hg (argsL := argsL) (rest := rest) (hlen _ hsigM) hstack hdg
  obtain ⟨v, B, X', hpost, hsteps⟩ := hK m meth c ⟨T.setVm vm₁, locs, cells, slots⟩ { g with stack := rest } (.invokevirtual index) mk (Value.ref b :: argsL).toArray X₁ hg hsize hdg hW (X₁.named hnamed) (hpre vm₁ X₁.warmed)
  exact ⟨v, vm₁, B, X₁.warmed, X', hpost, fun target h => hstep₁ _ fun acts => by rw [doInvoke_state]; exact hsteps.trans h⟩
abbrev vx_CVW (R : Room) (s : State) (args : Array Value) (own C : String) (index : Nat) (y : MethodName) (bytes : ByteArray) (maxL : Nat) (ret : Option FieldType) (hh : List (Nat × Nat × Nat × Nat)) (ws : List Cond) (rm : Room) (mc ms n : Nat) : Prop :=
  (rm.cells = mc ∧ rm.slots = ms ∧ rm.frames + 1 ≤ R.frames ∧ 8 + (maxL + 11) + rm.locals ≤ R.locals ∧ (∀ w ∈ ws, ∀ (a' : Array Value) (U : State), s.WarmedH U.vm → w.before a' U = true) ∧ Cond.codeWith y bytes maxL ret hh ∈ ws) ∧
  (Cond.codeWith y bytes maxL ret hh).before args s = true ∧ (Cond.initialized y.cls).before args s = true ∧ (y.cls ≠ "java/lang/invoke/MethodHandle" ∧ y.cls ≠ "java/lang/invoke/VarHandle") ∧
  (∀ sig, parseMethodDescriptor y.desc = some sig → n = sig.parameters.length) ∧ (Cond.methodLink own index y).before args s = true ∧ (Cond.instanceMethod y).before args s = true ∧ (Cond.selects C y y).before args s = true
theorem vx_cwVW {own C : String} {index maxL mc ms : Nat} {y : MethodName} {bytes : ByteArray} {ret : Option FieldType} {hh : List (Nat × Nat × Nat × Nat)} {Ts ws ws' : List Cond} {rm : Room} (n : Nat) (ht : ∀ w ∈ Ts, w.before args s = true) (hT : GoodIn Ts (wsV own index C y ws)) (hw : ws = Cond.codeWith y bytes maxL ret hh :: ws') (hrc : rm.cells = mc) (hrs : rm.slots = ms)
    (hd : y.cls = C ∧ y.cls ≠ "java/lang/invoke/MethodHandle" ∧ y.cls ≠ "java/lang/invoke/VarHandle" ∧ (parseMethodDescriptor y.desc).map (fun d => d.parameters.length) = some n) (hR : rm.frames + 1 ≤ R.frames ∧ 8 + (maxL + 11) + rm.locals ≤ R.locals) :
    vx_CVW R s args own C index y bytes maxL ret hh ws rm mc ms n := by
  obtain ⟨hC, hd⟩ := hd
  subst hC
  have ok : ∀ w ∈ wsV own index y.cls y ws, w.before args s = true := fun w h => ht w (hT w h).1
  have hG : GoodIn Ts ws := fun w h => hT w (by unfold wsV; exact List.mem_append_right _ h)
  have hc : Cond.codeWith y bytes maxL ret hh ∈ ws := by rw [hw]; exact List.mem_cons_self
  refine ⟨⟨hrc, hrs, hR.1, hR.2, pay_in ht hG, hc⟩, ht _ (hG _ hc).1, ok _ (by simp [wsV]), ⟨hd.1, hd.2.1⟩, fun sig h => ?_, ok _ (by simp [wsV]), ok _ (by simp [wsV]), ok _ (by simp [wsV])⟩
  have h2 := hd.2.2
  rw [h] at h2
  exact (Option.some.inj h2).symm
theorem vx_runVW {y : MethodName} {bytes cc : ByteArray} {maxL nL mc ms n index : Nat} {ret : Option FieldType} {hh : List (Nat × Nat × Nat × Nat)} {ws : List Cond} {rm : Room} {Pc : Array Value → State → Prop} {Qc : Array Value → State → Outcome → State → Prop} {free : Addr → Prop} {Ts : List Cond} {own C : String} {b : Addr} {As rest : List Value} {g : JFrame}
    (S : CallFix p m c cc nL s args Ts own) (hM : Met l y ws rm Pc Qc mc ms free) (cw : vx_CVW R s args own C index y bytes maxL ret hh ws rm mc ms n) (hp : PreV s H C b Pc As)
    (hg : g.method = m) (hn : As.length = n) (hsize : g.locals.size = nL) (hstack : g.stack = As.reverse ++ .ref b :: rest) (hW : 2 * g.monitorRoom + (rest.map fun v => v.category).sum ≤ 8) (hdg : decode cc g.pc = .ok (.invokevirtual index, 3)) (hf : cells + mc ≤ R.cells ∧ slots + ms ≤ R.slots) :
    va_Run p l e R s m args below meth c H locs cells slots mc ms g rest (Qc (Value.ref b :: As).toArray) free := by
  obtain ⟨⟨hrc, hrs, hfr, hlo, hws, hcw⟩, hcode, hini, hy, hlen, hl, hin, hse⟩ := cw
  have hK : Back l R p e below s args y 3 8 (PreOf R mc ms Pc) (PostOf Qc mc ms free) := va_backW (hh := hh) (bytes := bytes) (maxL := maxL) (ret := ret) hM hp.1 hrc hrs hfr hlo hws hcw (fun a' U hW => word_at hW (Or.inl (by first | rfl | simp [Cond.onTables, Cond.keeps, Cond.steady])) hini)
  obtain ⟨hx, hb, hml, ho, -⟩ := S
  obtain ⟨-, ⟨cellB, hcB, hoB, hclB⟩, hPc⟩ := hp
  intro T hT X
  obtain ⟨v, vm₁, ⟨U', l2, c2, s2⟩, hW₁, X', ⟨g', mk, t, L, e1, e2, hq, h1, hL, h2, h3⟩, st⟩ := vx_callVW X hx (C := C) (hh := hh) (bytes := bytes) (maxL := maxL) (ret := ret) ho hl hin hse hcode hy hK (by rw [hT]; exact hcB) hoB hclB hg (hsize.trans hml.symm) (argsL := As) (rest := rest) (fun sig h => hn.trans (hlen sig h)) hstack hW (by rw [hb]; exact hdg)
    (fun vm₁ hW₁ => ⟨hf.1, hf.2, hPc (T.setVm vm₁) hT hW₁⟩)
  dsimp only [Pt.U, Pt.locs, Pt.cells, Pt.slots] at X' e1 e2 h1 h2 h3 st
  subst h1; subst h2; subst h3
  exact ⟨v, (T.setVm vm₁).calling g' mk (Value.ref b :: As).toArray, t, U', L, hT, X', hL, e1, e2, hq, st⟩
section
variable {y : MethodName} {bytes cc : ByteArray} {maxL nL mc ms n index : Nat} {ret : Option FieldType} {ws : List Cond} {rm : Room} {Pc : Array Value → State → Prop} {Qc : Array Value → State → Outcome → State → Prop} {XC : String → State → State → Prop} {free : Addr → Prop} {Ts : List Cond} {own C : String} {b : Addr} {As rest : List Value} {g : JFrame}
theorem vx_runVX {hh : List (Nat × Nat × Nat × Nat)} (S : CallFix p m c cc nL s args Ts own) (hM : vx_Met l y ws rm Pc Qc XC mc ms free) (cw : vx_CVW R s args own C index y bytes maxL ret hh ws rm mc ms n) (hp : PreV s H C b Pc As)
    (hg : g.method = m) (hn : As.length = n) (hsize : g.locals.size = nL) (hstack : g.stack = As.reverse ++ .ref b :: rest) (hW : 2 * g.monitorRoom + (rest.map fun v => v.category).sum ≤ 8) (hdg : decode cc g.pc = .ok (.invokevirtual index, 3)) (hf : cells + mc ≤ R.cells ∧ slots + ms ≤ R.slots) :
    vx_Run p l e R s m args below meth c H locs cells slots mc ms g rest (Qc (Value.ref b :: As).toArray) XC free := by
  obtain ⟨⟨hrc, hrs, hfr, hlo, hws, hcw⟩, hcode, hini, hy, hlen, hl, hin, hse⟩ := cw
  have hK : vx_Back l R p e below s args y 3 8 (PreOf R mc ms Pc) (PostOf Qc mc ms free) (vx_Post XC mc ms free) := vx_backW (hh := hh) (bytes := bytes) (maxL := maxL) (ret := ret) hM hp.1 hrc hrs hfr hlo hws hcw (fun a' U hW => word_at hW (Or.inl (by first | rfl | simp [Cond.onTables, Cond.keeps, Cond.steady])) hini)
  obtain ⟨hx, hb, hml, ho, -⟩ := S
  obtain ⟨-, ⟨cellB, hcB, hoB, hclB⟩, hPc⟩ := hp
  intro T hT X
  rcases vx_callVX X hx (C := C) (hh := hh) (bytes := bytes) (maxL := maxL) (ret := ret) ho hl hin hse hcode hy hK (by rw [hT]; exact hcB) hoB hclB hg (hsize.trans hml.symm) (argsL := As) (rest := rest) (fun sig h => hn.trans (hlen sig h)) hstack hW (by rw [hb]; exact hdg)
    (fun vm₁ hW₁ => ⟨hf.1, hf.2, hPc (T.setVm vm₁) hT hW₁⟩) with ⟨v, vm₁, ⟨U', l2, c2, s2⟩, hW₁, X', ⟨g', mk, t, L, e1, e2, hq, h1, hL, h2, h3⟩, st⟩ | ⟨q, vm₁, ⟨U', l2, c2, s2⟩, hW₁, X', ⟨g', mk, t, L, E, ce, e1, e2, hq, hce, hcv, hcl, h1, hL, h2, h3⟩, st⟩
  · dsimp only [Pt.U, Pt.locs, Pt.cells, Pt.slots] at X' e1 e2 h1 h2 h3 st
    subst h1; subst h2; subst h3
    exact Or.inl ⟨v, (T.setVm vm₁).calling g' mk (Value.ref b :: As).toArray, t, U', L, hT, X', hL, e1, e2, hq, st⟩
  · dsimp only [Pt.U, Pt.locs, Pt.cells, Pt.slots] at X' e1 e2 h1 h2 h3 st hcl
    subst h1; subst h2; subst h3
    exact Or.inr ⟨q, (T.setVm vm₁).calling g' mk (Value.ref b :: As).toArray, t, U', L, E, ce, hT, X', hL, e1, e2, hq, hce, hcv, vx_cls hW₁ hcl, st⟩
theorem vx_runSX {hh : List (Nat × Nat × Nat × Nat)} (S : CallFix p m c cc nL s args Ts own) (hM : vx_Met l y ws rm Pc Qc XC mc ms free) (cw : vx_CSW R s args own index y bytes maxL ret hh ws rm mc ms n) (hp : PreS s H Pc As)
    (hg : g.method = m) (hn : As.length = n) (hsize : g.locals.size = nL) (hstack : g.stack = As.reverse ++ rest) (hW : 2 * g.monitorRoom + (rest.map fun v => v.category).sum ≤ 8) (hdg : decode cc g.pc = .ok (.invokestatic index, 3)) (hf : cells + mc ≤ R.cells ∧ slots + ms ≤ R.slots) :
    vx_Run p l e R s m args below meth c H locs cells slots mc ms g rest (Qc As.toArray) XC free := by
  obtain ⟨⟨hrc, hrs, hfr, hlo, hws, hcw⟩, hcode, hini, hy, hlen, hl, hstt⟩ := cw
  have hK : vx_Back l R p e below s args y 3 8 (PreOf R mc ms Pc) (PostOf Qc mc ms free) (vx_Post XC mc ms free) := vx_backW (hh := hh) (bytes := bytes) (maxL := maxL) (ret := ret) hM hp.1 hrc hrs hfr hlo hws hcw (fun a' U hW => word_at hW (Or.inl (by first | rfl | simp [Cond.onTables, Cond.keeps, Cond.steady])) hini)
  obtain ⟨hx, hb, hml, ho, -⟩ := S
  intro T hT X
  rcases vx_callSX X hx (hh := hh) (bytes := bytes) (maxL := maxL) (ret := ret) ho hl hstt hini hcode hy hK hg (hsize.trans hml.symm) (argsL := As) (rest := rest) (fun sig h => hn.trans (hlen sig h)) hstack hW (by rw [hb]; exact hdg)
    (fun vm₁ hW₁ => ⟨hf.1, hf.2, hp.2 (T.setVm vm₁) hT hW₁⟩) with ⟨v, vm₁, ⟨U', l2, c2, s2⟩, hW₁, X', ⟨g', mk, t, L, e1, e2, hq, h1, hL, h2, h3⟩, st⟩ | ⟨q, vm₁, ⟨U', l2, c2, s2⟩, hW₁, X', ⟨g', mk, t, L, E, ce, e1, e2, hq, hce, hcv, hcl, h1, hL, h2, h3⟩, st⟩
  · dsimp only [Pt.U, Pt.locs, Pt.cells, Pt.slots] at X' e1 e2 h1 h2 h3 st
    subst h1; subst h2; subst h3
    exact Or.inl ⟨v, (T.setVm vm₁).calling g' mk As.toArray, t, U', L, hT, X', hL, e1, e2, hq, st⟩
  · dsimp only [Pt.U, Pt.locs, Pt.cells, Pt.slots] at X' e1 e2 h1 h2 h3 st hcl
    subst h1; subst h2; subst h3
    exact Or.inr ⟨q, (T.setVm vm₁).calling g' mk As.toArray, t, U', L, E, ce, hT, X', hL, e1, e2, hq, hce, hcv, vx_cls hW₁ hcl, st⟩
end
end VXH
theorem vx_ofWH {l : Launch} {y : MethodName} {ws ws' : List Cond} {rm : Room} {Pc : Array Value → State → Prop} {Qc : Array Value → State → Outcome → State → Prop} {XC : String → State → State → Prop} {mc ms : Nat} {free : Addr → Prop} {cc : ByteArray} {maxL : Nat} {ret : Option FieldType} {hh : List (Nat × Nat × Nat × Nat)}
    (hy : plainName y.cls = true) (hw : ws = Cond.codeWith y cc maxL ret hh :: ws')
    (body : ∀ p e s m args below meth c s₁, BodyLoose p l y (headSpec ws rm) cc maxL ret e s m args below meth c s₁ → c.maxLocals = maxL → Pc args s →
      W p l e (headSpec ws rm).room s m args below meth c s.heap [] 0 0 (vx_MQ below Qc XC args s mc ms free) (entryFrame m args maxL)) : vx_Met l y ws rm Pc Qc XC mc ms free := by
  refine MetFree.of_bodyS (code := cc) (maxLocals := maxL) (ret := ret) hy ?_ ?_
  · intro args s m h hn
    obtain ⟨m9, meth, c, hn9, h1, h2, h3, h4, -, h5, h6, -⟩ := Cond.codeWith_spec (atoms_spec (ws := ws) h _ (by rw [hw]; exact List.mem_cons_self))
    cases hn.symm.trans hn9
    exact ⟨meth, c, h1, h2, h3, h4, h5, h6⟩
  · intro p e s m args below meth c s₁ B hml hP _
    have hh0 : s₁.heap = s.heap := by rw [B.state]; rfl
    obtain ⟨t, a1, o, b1, b2, b3⟩ := body p e s m args below meth c s₁ B hml hP s₁ hh0 (Stand.of_body B)
    exact ⟨t, o, a1, b1, b2, b3⟩
/-! ===== END ===== -/
end
section
/-! Own rows: arrays that are made and put into a field, the object's fields known by a list of what matters -/
/-- what is known of an object's fields: how many, and some of them -/
def kJ (N : Nat) (L : List (Nat × Value)) (fs : List Value) : Prop := fs.length = N ∧ ∀ x ∈ L, fs[x.1]? = some x.2
theorem kJ_set {N : Nat} {L : List (Nat × Value)} {fs : List Value} (h : kJ N L fs) (k : Nat) (v : Value) (hk : (L.map Prod.fst).contains k = false) : kJ N L (fs.set k v) := by
  refine ⟨by rw [List.length_set]; exact h.1, fun x hx => ?_⟩
  have h1 : x.1 ≠ k := by
    intro e
    have : (L.map Prod.fst).contains k = true := by
      rw [List.contains_iff_mem]
      exact List.mem_map.mpr ⟨x, hx, e⟩
    rw [hk] at this
    cases this
  rw [List.getElem?_set_ne (Ne.symm h1)]
  exact h.2 x hx
theorem kJ_add {N : Nat} {L : List (Nat × Value)} {fs : List Value} (h : kJ N L fs) (k : Nat) (v : Value) (hk : (L.map Prod.fst).contains k = false) (hl : k < N) : kJ N ((k, v) :: L) (fs.set k v) := by
  have h2 := kJ_set h k v hk
  refine ⟨h2.1, fun x hx => ?_⟩
  rcases List.mem_cons.mp hx with e | hx
  · subst e
    show (fs.set k v)[k]? = some v
    rw [List.getElem?_set_self (by rw [h.1]; exact hl)]
  · exact h2.2 x hx
theorem kJ_up {N : Nat} {L : List (Nat × Value)} {fs : List Value} (h : kJ N L fs) (k : Nat) (v : Value) (L2 : List (Nat × Value)) (hL : ∀ x ∈ L2, x = (k, v) ∨ (x ∈ L ∧ x.1 ≠ k)) (hl : k < N) : kJ N L2 (fs.set k v) := by
  refine ⟨by rw [List.length_set]; exact h.1, fun x hx => ?_⟩
  rcases hL x hx with e | ⟨h1, h2⟩
  · subst e
    show (fs.set k v)[k]? = some v
    rw [List.getElem?_set_self (by rw [h.1]; exact hl)]
  · rw [List.getElem?_set_ne (Ne.symm h2)]
    exact h.2 x h1
theorem kJ_at {N : Nat} {L : List (Nat × Value)} {fs : List Value} (h : kJ N L fs) (i : Nat) {k : Nat} {v : Value} (hi : L[i]? = some (k, v)) : fs[k]? = some v := h.2 _ (List.mem_of_getElem? hi)
theorem kJ_sub {N : Nat} {L L2 : List (Nat × Value)} {fs : List Value} (h : kJ N L fs) (hs : ∀ x ∈ L2, x ∈ L) : kJ N L2 fs := ⟨h.1, fun x hx => h.2 x (hs x hx)⟩
section KA
variable {p : Program} {l : Launch} {e : Env} {R : Room} {s : State} {m : MethodId} {args : Array Value} {below : List Frame} {meth : Method} {c : Code} {H : Heap} {locs : List Loc} {cells slots : Nat} {Q : State → Prop}
variable {cc : ByteArray} {pc : Nat} {ls : Array Slot} {rest : List Value} {D : va_G} {cl : List vw_C} {A : Nat → Prop} {a : Nat} {tys : List (ClassId × FieldType)} {ws : va_W} {H0 : Heap}
/-- newarray, the array itself forgotten -/
theorem k_newa (hexec : p.tables.exec = Jvm.exec) (hb : c.code = cc) {atype : ArrayType} (harr : (Cond.arrayClass (newarray.typeOf atype)).before args s = true) (hP : va_P D cl ws H) (hD : va_D A ws) (hS : va_S A H0 H locs)
    {n : Int32} {N' : Nat} (hn : ¬ n < 0) (hN : n.toNatClampNeg = N') (hbytes : N' * componentBytes (newarray.typeOf atype) ≤ 536870912) (hcells : cells + 1 ≤ R.cells) (hslots : slots + N' ≤ R.slots) (hdg : decode cc pc = .ok (.newarray atype, 2))
    (kk : ∀ (q : Nat) (H1 : Heap), va_P D cl ws H1 → va_D A ws → va_S A H0 H1 locs → W p l e R s m args below meth c H1 locs (cells + 1) (slots + N') Q (F0 m (pc + 2) ls (.ref q :: rest))) : W p l e R s m args below meth c H locs cells slots Q (F0 m pc ls (.int n :: rest)) := by
  refine va_newaK hexec hb harr rfl hdg rfl hn hN hbytes hcells hslots rfl fun H1 cA e1 z1 o1 hAr hNm => ?_
  have hk : ∀ (k : Nat) (x : Nat × va_E), ws[k]? = some x → H1[x.1]? = H[x.1]? := fun k x hx => o1 x.1 ((hP k x hx).lt)
  exact kk H.size H1 (hP.kept hk) hD ⟨Nat.le_trans hS.1 (by omega), fun x h1 h2 => (o1 x (Nat.lt_of_lt_of_le h1 hS.1)).trans (hS.2.1 x h1 h2), hS.2.2⟩
/-- anewarray of arrays, the array itself forgotten -/
theorem k_newq (hexec : p.tables.exec = Jvm.exec) (hb : c.code = cc) {own : String} {index : Nat} {t : FieldType} (hown : s.vm.findClass own = some m.cls) (hclink : (Cond.classLink own index (FieldType.array t).toString).before args s = true) (hover : (Cond.arrayOver (.array t)).before args s = true) (hP : va_P D cl ws H) (hD : va_D A ws) (hS : va_S A H0 H locs)
    {n : Int32} {N' : Nat} (hn : ¬ n < 0) (hN : n.toNatClampNeg = N') (hbytes : N' * 4 ≤ 536870912) (hcells : cells + 1 ≤ R.cells) (hslots : slots + N' ≤ R.slots) (hdg : decode cc pc = .ok (.anewarray index, 3))
    (kk : ∀ (q : Nat) (H1 : Heap), va_P D cl ws H1 → va_D A ws → va_S A H0 H1 locs → W p l e R s m args below meth c H1 locs (cells + 1) (slots + N') Q (F0 m (pc + 3) ls (.ref q :: rest))) : W p l e R s m args below meth c H locs cells slots Q (F0 m pc ls (.int n :: rest)) := by
  subst hN
  refine W.anewA hexec hb hown hclink hover rfl hdg rfl hn hbytes hcells hslots fun cA kA comp f1 f2 f3 f4 => ?_
  generalize hH1 : H.push ({ cls := cA, slots := Array.replicate n.toNatClampNeg .null, vm := .none } : Cell) = H1
  have z1 : H1.size = H.size + 1 := by rw [← hH1, Array.size_push]
  have o1 : ∀ q : Nat, q < H.size → H1[q]? = H[q]? := fun q hq => by rw [← hH1, Array.getElem?_push, if_neg (Nat.ne_of_lt hq)]
  have hk : ∀ (k : Nat) (x : Nat × va_E), ws[k]? = some x → H1[x.1]? = H[x.1]? := fun k x hx => o1 x.1 ((hP k x hx).lt)
  exact kk H.size H1 (hP.kept hk) hD ⟨Nat.le_trans hS.1 (by omega), fun x h1 h2 => (o1 x (Nat.lt_of_lt_of_le h1 hS.1)).trans (hS.2.1 x h1 h2), hS.2.2⟩
/-- newarray; putfield of a final field of this constructor's object, the first of the world; the array is forgotten -/
theorem k_arrF {N0 : Nat} {L : List (Nat × Value)} {fs : List Value} {wr : va_W} {ci : Nat} {C : String} {T : u_T} {N index : Nat} {Ts : List Cond} (hts : ∀ w ∈ Ts, w.before args s = true) (hin : ∀ w ∈ u_ws C T N, w ∈ Ts) (ty0 : Nat → FieldType) (hty : ∀ k, k < N → parseFieldDescriptor (T k).2.2.1 = some (ty0 k)) (hnm : ∀ a, a < N → ∀ b, b < N → a ≠ b → (T a).2.1 ≠ (T b).2.1)
    (hexec : p.tables.exec = Jvm.exec) (hb : c.code = cc) (hown : s.vm.findClass C = some m.cls) (hin2 : meth.name = "<init>") (hK : va_K D cl tys s) (hc : cl[ci]? = some (C, T, N)) (hJ : kJ N0 L fs) (hP : va_P D cl ((a, .inr (ci, fs)) :: wr) H) (hD : va_D A ((a, .inr (ci, fs)) :: wr)) (hS : va_S A H0 H locs)
    {atype : ArrayType} (harr : (Cond.arrayClass (newarray.typeOf atype)).before args s = true) (k : Nat) (hk : k < N) (hkl : k < N0) (hkL : (L.map Prod.fst).contains k = false) (hlink : (Cond.fieldLink C index C (T k).2.1 (T k).2.2.1).before args s = true) (hfin : (T k).2.2.2 = true) (hdecl : (T k).1 = C) {ty : FieldType} (hd : parseFieldDescriptor (T k).2.2.1 = some (.array ty))
    {n : Int32} {N' : Nat} (hn : ¬ n < 0) (hN : n.toNatClampNeg = N') (hbytes : N' * componentBytes (newarray.typeOf atype) ≤ 536870912) (hcells : cells + 1 ≤ R.cells) (hslots : slots + N' ≤ R.slots) (hdg : decode cc pc = .ok (.newarray atype, 2)) (hdg2 : decode cc (pc + 2) = .ok (.putfield index, 3))
    (kk : ∀ (H1 : Heap) (locs1 : List Loc) (fs1 : List Value), kJ N0 L fs1 → va_P D cl ((a, .inr (ci, fs1)) :: wr) H1 → va_D A ((a, .inr (ci, fs1)) :: wr) → va_S A H0 H1 locs1 → W p l e R s m args below meth c H1 locs1 (cells + 1) (slots + N') Q (F0 m (pc + 2 + 3) ls rest)) : W p l e R s m args below meth c H locs cells slots Q (F0 m pc ls (.int n :: .ref a :: rest)) := by
  refine k_newa hexec hb harr hP hD hS hn hN hbytes hcells hslots hdg (fun q H1 hP hD hS => ?_)
  refine va_putF (D := D) (ci := ci) (v := .ref q) (ty := .array ty) (C := C) (T := T) (N := N) hexec hb hts hin ty0 hty hnm hown hK hP hD hS 0 rfl hc k hk hlink (fun _ h9 => by rw [hdecl] at h9; exact h9) hfin hin2 hdecl hd rfl rfl (by rw [hJ.1]; exact hkl) hdg2 (fun H2 locs2 hP hD hS => ?_)
  exact kk H2 locs2 (fs.set k (.ref q)) (kJ_set hJ k _ hkL) hP hD hS
/-- anewarray; putfield of a final field of this constructor's object, the first of the world; the array is forgotten -/
theorem k_arrQ {N0 : Nat} {L : List (Nat × Value)} {fs : List Value} {wr : va_W} {ci : Nat} {C : String} {T : u_T} {N index : Nat} {Ts : List Cond} (hts : ∀ w ∈ Ts, w.before args s = true) (hin : ∀ w ∈ u_ws C T N, w ∈ Ts) (ty0 : Nat → FieldType) (hty : ∀ k, k < N → parseFieldDescriptor (T k).2.2.1 = some (ty0 k)) (hnm : ∀ a, a < N → ∀ b, b < N → a ≠ b → (T a).2.1 ≠ (T b).2.1)
    (hexec : p.tables.exec = Jvm.exec) (hb : c.code = cc) (hown : s.vm.findClass C = some m.cls) (hin2 : meth.name = "<init>") (hK : va_K D cl tys s) (hc : cl[ci]? = some (C, T, N)) (hJ : kJ N0 L fs) (hP : va_P D cl ((a, .inr (ci, fs)) :: wr) H) (hD : va_D A ((a, .inr (ci, fs)) :: wr)) (hS : va_S A H0 H locs) 
    {et : FieldType} {ix : Nat} (hclink : (Cond.classLink C ix (FieldType.array et).toString).before args s = true) (hover : (Cond.arrayOver (.array et)).before args s = true) (k : Nat) (hk : k < N) (hkl : k < N0) (hkL : (L.map Prod.fst).contains k = false) (hlink : (Cond.fieldLink C index C (T k).2.1 (T k).2.2.1).before args s = true) (hfin : (T k).2.2.2 = true) (hdecl : (T k).1 = C) {ty : FieldType} (hd : parseFieldDescriptor (T k).2.2.1 = some (.array ty))
    {n : Int32} {N' : Nat} (hn : ¬ n < 0) (hN : n.toNatClampNeg = N') (hbytes : N' * 4 ≤ 536870912) (hcells : cells + 1 ≤ R.cells) (hslots : slots + N' ≤ R.slots) (hdg : decode cc pc = .ok (.anewarray ix, 3)) (hdg2 : decode cc (pc + 3) = .ok (.putfield index, 3))
    (kk : ∀ (H1 : Heap) (locs1 : List Loc) (fs1 : List Value), kJ N0 L fs1 → va_P D cl ((a, .inr (ci, fs1)) :: wr) H1 → va_D A ((a, .inr (ci, fs1)) :: wr) → va_S A H0 H1 locs1 → W p l e R s m args below meth c H1 locs1 (cells + 1) (slots + N') Q (F0 m (pc + 3 + 3) ls rest)) : W p l e R s m args below meth c H locs cells slots Q (F0 m pc ls (.int n :: .ref a :: rest)) := by
  refine k_newq hexec hb hown hclink hover hP hD hS hn hN hbytes hcells hslots hdg (fun q H1 hP hD hS => ?_)
  refine va_putF (D := D) (ci := ci) (v := .ref q) (ty := .array ty) (C := C) (T := T) (N := N) hexec hb hts hin ty0 hty hnm hown hK hP hD hS 0 rfl hc k hk hlink (fun _ h9 => by rw [hdecl] at h9; exact h9) hfin hin2 hdecl hd rfl rfl (by rw [hJ.1]; exact hkl) hdg2 (fun H2 locs2 hP hD hS => ?_)
  exact kk H2 locs2 (fs.set k (.ref q)) (kJ_set hJ k _ hkL) hP hD hS
/-- newarray; putfield of a field of this object, the first of the world; the array is forgotten -/
theorem k_arrP {N0 : Nat} {L : List (Nat × Value)} {fs : List Value} {wr : va_W} {ci : Nat} {C : String} {T : u_T} {N index : Nat} {Ts : List Cond} (hts : ∀ w ∈ Ts, w.before args s = true) (hin : ∀ w ∈ u_ws C T N, w ∈ Ts) (ty0 : Nat → FieldType) (hty : ∀ k, k < N → parseFieldDescriptor (T k).2.2.1 = some (ty0 k)) (hnm : ∀ a, a < N → ∀ b, b < N → a ≠ b → (T a).2.1 ≠ (T b).2.1)
    (hexec : p.tables.exec = Jvm.exec) (hb : c.code = cc) (hown : s.vm.findClass C = some m.cls) (hK : va_K D cl tys s) (hc : cl[ci]? = some (C, T, N)) (hJ : kJ N0 L fs) (hP : va_P D cl ((a, .inr (ci, fs)) :: wr) H) (hD : va_D A ((a, .inr (ci, fs)) :: wr)) (hS : va_S A H0 H locs)
    {atype : ArrayType} (harr : (Cond.arrayClass (newarray.typeOf atype)).before args s = true) (k : Nat) (hk : k < N) (hkl : k < N0) (hkL : (L.map Prod.fst).contains k = false) (hlink : (Cond.fieldLink C index C (T k).2.1 (T k).2.2.1).before args s = true) (hfin : (T k).2.2.2 = false) (hdecl : (T k).1 = C) {ty : FieldType} (hd : parseFieldDescriptor (T k).2.2.1 = some (.array ty))
    {n : Int32} {N' : Nat} (hn : ¬ n < 0) (hN : n.toNatClampNeg = N') (hbytes : N' * componentBytes (newarray.typeOf atype) ≤ 536870912) (hcells : cells + 1 ≤ R.cells) (hslots : slots + N' ≤ R.slots) (hdg : decode cc pc = .ok (.newarray atype, 2)) (hdg2 : decode cc (pc + 2) = .ok (.putfield index, 3))
    (kk : ∀ (H1 : Heap) (locs1 : List Loc) (fs1 : List Value), kJ N0 L fs1 → va_P D cl ((a, .inr (ci, fs1)) :: wr) H1 → va_D A ((a, .inr (ci, fs1)) :: wr) → va_S A H0 H1 locs1 → W p l e R s m args below meth c H1 locs1 (cells + 1) (slots + N') Q (F0 m (pc + 2 + 3) ls rest)) : W p l e R s m args below meth c H locs cells slots Q (F0 m pc ls (.int n :: .ref a :: rest)) := by
  refine k_newa hexec hb harr hP hD hS hn hN hbytes hcells hslots hdg (fun q H1 hP hD hS => ?_)
  refine va_put (D := D) (ci := ci) (v := .ref q) (ty := .array ty) (C := C) (T := T) (N := N) hexec hb hts hin ty0 hty hnm hown hK hP hD hS 0 rfl hc k hk hlink (fun _ h9 => by rw [hdecl] at h9; exact h9) hfin hd rfl rfl (by rw [hJ.1]; exact hkl) hdg2 (fun H2 locs2 hP hD hS => ?_)
  exact kk H2 locs2 (fs.set k (.ref q)) (kJ_set hJ k _ hkL) hP hD hS
/-- putfield of a field that isn't final, of the first object of the world -/
theorem k_put {N0 : Nat} {L : List (Nat × Value)} (L2 : List (Nat × Value)) {fs : List Value} {wr : va_W} {ci : Nat} {own C : String} {T : u_T} {N index : Nat} {Ts : List Cond} (hts : ∀ w ∈ Ts, w.before args s = true) (hin : ∀ w ∈ u_ws C T N, w ∈ Ts) (ty0 : Nat → FieldType) (hty : ∀ k, k < N → parseFieldDescriptor (T k).2.2.1 = some (ty0 k)) (hnm : ∀ a, a < N → ∀ b, b < N → a ≠ b → (T a).2.1 ≠ (T b).2.1)
    (hexec : p.tables.exec = Jvm.exec) (hb : c.code = cc) (hown : s.vm.findClass own = some m.cls) (hK : va_K D cl tys s) (hc : cl[ci]? = some (C, T, N)) (hJ : kJ N0 L fs) (hP : va_P D cl ((a, .inr (ci, fs)) :: wr) H) (hD : va_D A ((a, .inr (ci, fs)) :: wr)) (hS : va_S A H0 H locs)
    (k : Nat) (hk : k < N) (hkl : k < N0) (hlink : (Cond.fieldLink own index (T k).1 (T k).2.1 (T k).2.2.1).before args s = true) (hfin : (T k).2.2.2 = false) {ty : FieldType} (hd : parseFieldDescriptor (T k).2.2.1 = some ty) {v : Value} (hn : narrow ty v = v) (hfit : fits ty v = true) (hdg2 : decode cc pc = .ok (.putfield index, 3)) (hJ2 : ∀ f, kJ N0 L f → kJ N0 L2 (f.set k v))
    (kk : ∀ (H1 : Heap) (locs1 : List Loc) (fs1 : List Value), kJ N0 L2 fs1 → va_P D cl ((a, .inr (ci, fs1)) :: wr) H1 → va_D A ((a, .inr (ci, fs1)) :: wr) → va_S A H0 H1 locs1 → W p l e R s m args below meth c H1 locs1 cells slots Q (F0 m (pc + 3) ls rest)) : W p l e R s m args below meth c H locs cells slots Q (F0 m pc ls (v :: .ref a :: rest)) := by
  refine va_put (D := D) (ci := ci) (v := v) (ty := ty) (C := C) (T := T) (N := N) hexec hb hts hin ty0 hty hnm hown hK hP hD hS 0 rfl hc k hk hlink (fun _ h9 => h9) hfin hd hn hfit (by rw [hJ.1]; exact hkl) hdg2 (fun H2 locs2 hP hD hS => ?_)
  exact kk H2 locs2 (fs.set k v) (hJ2 fs hJ) hP hD hS
/-- the same of a final field, in the constructor -/
theorem k_putF {N0 : Nat} {L : List (Nat × Value)} (L2 : List (Nat × Value)) {fs : List Value} {wr : va_W} {ci : Nat} {C : String} {T : u_T} {N index : Nat} {Ts : List Cond} (hts : ∀ w ∈ Ts, w.before args s = true) (hin : ∀ w ∈ u_ws C T N, w ∈ Ts) (ty0 : Nat → FieldType) (hty : ∀ k, k < N → parseFieldDescriptor (T k).2.2.1 = some (ty0 k)) (hnm : ∀ a, a < N → ∀ b, b < N → a ≠ b → (T a).2.1 ≠ (T b).2.1)
    (hexec : p.tables.exec = Jvm.exec) (hb : c.code = cc) (hown : s.vm.findClass C = some m.cls) (hin2 : meth.name = "<init>") (hK : va_K D cl tys s) (hc : cl[ci]? = some (C, T, N)) (hJ : kJ N0 L fs) (hP : va_P D cl ((a, .inr (ci, fs)) :: wr) H) (hD : va_D A ((a, .inr (ci, fs)) :: wr)) (hS : va_S A H0 H locs)
    (k : Nat) (hk : k < N) (hkl : k < N0) (hdecl : (T k).1 = C) (hlink : (Cond.fieldLink C index C (T k).2.1 (T k).2.2.1).before args s = true) (hfin : (T k).2.2.2 = true) {ty : FieldType} (hd : parseFieldDescriptor (T k).2.2.1 = some ty) {v : Value} (hn : narrow ty v = v) (hfit : fits ty v = true) (hdg2 : decode cc pc = .ok (.putfield index, 3)) (hJ2 : ∀ f, kJ N0 L f → kJ N0 L2 (f.set k v))
    (kk : ∀ (H1 : Heap) (locs1 : List Loc) (fs1 : List Value), kJ N0 L2 fs1 → va_P D cl ((a, .inr (ci, fs1)) :: wr) H1 → va_D A ((a, .inr (ci, fs1)) :: wr) → va_S A H0 H1 locs1 → W p l e R s m args below meth c H1 locs1 cells slots Q (F0 m (pc + 3) ls rest)) : W p l e R s m args below meth c H locs cells slots Q (F0 m pc ls (v :: .ref a :: rest)) := by
  refine va_putF (D := D) (ci := ci) (v := v) (ty := ty) (C := C) (T := T) (N := N) hexec hb hts hin ty0 hty hnm hown hK hP hD hS 0 rfl hc k hk hlink (fun _ h9 => by rw [hdecl] at h9; exact h9) hfin hin2 hdecl hd hn hfit (by rw [hJ.1]; exact hkl) hdg2 (fun H2 locs2 hP hD hS => ?_)
  exact kk H2 locs2 (fs.set k v) (hJ2 fs hJ) hP hD hS
/-- aastore of a text constant into the first array of the world; which one is forgotten -/
theorem k_aast {wr : va_W} (hexec : p.tables.exec = Jvm.exec) (hb : c.code = cc) (hK : va_K D cl tys s) {cA : ClassId} {n v : Nat} {f : Nat → Option Nat} (hP : va_P D cl ((a, .inl (cA, n, .inr (.inr (.inr (.inr f))))) :: wr) H) (hD : va_D A ((a, .inl (cA, n, .inr (.inr (.inr (.inr f))))) :: wr)) (hS : va_S A H0 H locs) (t0 : Nat) {E : String} (ht : tys[t0]? = some (cA, .object E)) (hr : va_Any E s H v) {i : Int32} (hin : vp_in i n) (hdg : decode cc pc = .ok (.aastore, 1))
    (kk : ∀ (H1 : Heap) (locs1 : List Loc) (f1 : Nat → Option Nat), va_P D cl ((a, .inl (cA, n, .inr (.inr (.inr (.inr f1))))) :: wr) H1 → va_D A ((a, .inl (cA, n, .inr (.inr (.inr (.inr f1))))) :: wr) → va_S A H0 H1 locs1 → W p l e R s m args below meth c H1 locs1 cells slots Q (F0 m (pc + 1) ls rest)) : W p l e R s m args below meth c H locs cells slots Q (F0 m pc ls (.ref v :: .int i :: .ref a :: rest)) :=
  va_astqM hexec hb hK hP hD hS 0 t0 rfl ht hr hin hdg (fun H1 locs1 h1 h2 h3 => kk H1 locs1 _ h1 h2 h3)
end KA
/-- the two statics of Throwable: null or some reference, their cells not in A -/
def tZ (A : Nat → Prop) (U : State) (H : Heap) : Prop := va_Zq "java/lang/Throwable" "UNASSIGNED_STACK" "[Ljava/lang/StackTraceElement;" A U H ∧ va_Zq "java/lang/Throwable" "SUPPRESSED_SENTINEL" "Ljava/util/List;" A U H
theorem tZ.moved {A : Nat → Prop} {u U : State} {H : Heap} (hvm : u.vm.Alike U.vm) (h : tZ A u H) : tZ A U H := ⟨va_Zq.moved hvm h.1, va_Zq.moved hvm h.2⟩
theorem tZ.kept {A : Nat → Prop} {U : State} {H H1 : Heap} (h : tZ A U H) (hq : ∀ a : Nat, a < H.size → ¬ A a → H1[a]? = H[a]?) : tZ A U H1 := ⟨va_Zq.kept h.1 hq, va_Zq.kept h.2 hq⟩
theorem tZ.narrow {A B : Nat → Prop} {U : State} {H : Heap} (h : tZ A U H) (hAB : ∀ q, B q → A q) : tZ B U H := ⟨va_Zq.narrow h.1 hAB, va_Zq.narrow h.2 hAB⟩
/-- a static that is null or a reference: its value, fit for a field of objects or arrays -/
theorem zq_val {C n d : String} {A : Nat → Prop} {U : State} {H : Heap} (h : va_Zq C n d A U H) : ∃ v : Value, va_Z C n d v A U H ∧ (∀ x, narrow (.object x) v = v ∧ fits (.object x) v = true) ∧ (∀ x, narrow (.array x) v = v ∧ fits (.array x) v = true) := by
  rcases h with h | ⟨t, h⟩
  · exact ⟨.null, h, fun _ => ⟨rfl, rfl⟩, fun _ => ⟨rfl, rfl⟩⟩
  · exact ⟨.ref t, h, fun _ => ⟨rfl, rfl⟩, fun _ => ⟨rfl, rfl⟩⟩
/-- a text constant: where it lies, a String, not in A -/
def sT (own : String) (A : Nat → Prop) (x : Nat × String) (U : State) (q : Nat) : Prop := vk_R own x.1 x.2 q U ∧ va_Any "java/lang/String" U U.heap q ∧ ¬ A q
theorem sT.any {own : String} {A : Nat → Prop} {x : Nat × String} {s : State} {q : Nat} {H : Heap} {locs : List Loc} (h : sT own A x s q) (hS : va_S A s.heap H locs) : va_Any "java/lang/String" s H q := by
  obtain ⟨-, ⟨cell, h1, h2, h3, h4⟩, hn⟩ := h
  exact ⟨cell, by rw [hS.2.1 q (Array.getElem?_eq_some_iff.mp h1).1 hn]; exact h1, h2, h3, h4⟩
theorem sT.moved {own : String} {A B : Nat → Prop} {x : Nat × String} {u U : State} {q : Nat} (h : sT own A x u q) (hW : u.WarmedH U.vm) (hq : ∀ a : Nat, a < u.heap.size → ¬ A a → U.heap[a]? = u.heap[a]?) (hB : ∀ q, B q → A q) : sT own B x U q := by
  obtain ⟨h0, ⟨cell, h1, h2, ⟨kC, h3⟩, h4⟩, hn⟩ := h
  refine ⟨vk_R.warm hW h0, ⟨cell, by rw [hq q (Array.getElem?_eq_some_iff.mp h1).1 hn]; exact h1, h2, ?_, ?_⟩, fun z => hn (hB _ z)⟩
  · obtain ⟨k', hk', -⟩ := hW.alike.2.2 _ _ h3
    exact ⟨k', hk'⟩
  · intro comp hc
    rw [hW.alike.assignable]
    exact h4 comp (by rw [← hW.alike.findClass]; exact hc)
/-- arrays over a type are there -/
def aO (ty : FieldType) (U : State) : Prop := (Cond.arrayOver ty).before #[] U = true
theorem aO.moved {ty : FieldType} {u U : State} (hvm : u.vm.Alike U.vm) (h : aO ty u) : aO ty U := by
  have h2 : (Cond.arrayOver ty).before #[] (u.setVm U.vm) = true := by rw [Cond.arrayOver_setVmC hvm]; exact h
  exact h2
theorem aO.use {ty : FieldType} {U : State} {A : Array Value} (h : aO ty U) : (Cond.arrayOver ty).before A U = true := h
theorem aO.of {ty : FieldType} {U : State} {A : Array Value} (h : (Cond.arrayOver ty).before A U = true) : aO ty U := h
end
section
/-! The words: one list for all walks -/
def wB_0 : List Cond := [Cond.methodLink RX13 1 objectInit, Cond.instanceMethod objectInit, Cond.code objectInit ⟨#[0xb1]⟩ 1 none, Cond.classLink RX13 7 RX12, Cond.instantiable RX12 6, Cond.initialized RX12, Cond.fieldLink RX13 10 "MeetingHouseModel" "halt" "LMeetingHouseModel$Halt;", Cond.arrayClass .int, Cond.fieldLink RX13 16 "MeetingHouseModel" "tape" "[I", Cond.classLink RX13 20 RJ0, Cond.fieldLink RX13 94 "MeetingHouseModel" "words" "[Ljava/lang/String;", Cond.fieldLink RX13 154 "MeetingHouseModel" "signs" "[Ljava/lang/String;", Cond.fieldLink RX13 157 "MeetingHouseModel" "tKind" "[I", Cond.fieldLink RX13 160 "MeetingHouseModel" "tValue" "[I", Cond.fieldLink RX13 163 "MeetingHouseModel" "tLine" "[I", Cond.fieldLink RX13 166 "MeetingHouseModel" "tBlanks" "[I", Cond.fieldLink RX13 169 "MeetingHouseModel" "nameAt" "[I", Cond.fieldLink RX13 172 "MeetingHouseModel" "nameSize" "[I", Cond.fieldLink RX13 175 "MeetingHouseModel" "nameText" "[I", Cond.fieldLink RX13 178 "MeetingHouseModel" "stringAt" "[I", Cond.fieldLink RX13 181 "MeetingHouseModel" "stringSize" "[I", Cond.fieldLink RX13 184 "MeetingHouseModel" "stringText" "[I", Cond.fieldLink RX13 187 "MeetingHouseModel" "kind" "[I", Cond.fieldLink RX13 190 "MeetingHouseModel" "line" "[I", Cond.fieldLink RX13 193 "MeetingHouseModel" "a" "[I", Cond.fieldLink RX13 196 "MeetingHouseModel" "b" "[I", Cond.fieldLink RX13 199 "MeetingHouseModel" "c" "[I", Cond.fieldLink RX13 202 "MeetingHouseModel" "sym" "[I", Cond.fieldLink RX13 205 "MeetingHouseModel" "next" "[I", Cond.fieldLink RX13 208 "MeetingHouseModel" "type" "[I", Cond.fieldLink RX13 211 "MeetingHouseModel" "spec" "[I", Cond.fieldLink RX13 214 "MeetingHouseModel" "result" "[I", Cond.fieldLink RX13 217 "MeetingHouseModel" "inner" "[I", Cond.fieldLink RX13 220 "MeetingHouseModel" "sName" "[I", Cond.fieldLink RX13 223 "MeetingHouseModel" "sKind" "[I", Cond.fieldLink RX13 226 "MeetingHouseModel" "sType" "[I", Cond.fieldLink RX13 229 "MeetingHouseModel" "sMany" "[I", Cond.fieldLink RX13 232 "MeetingHouseModel" "sNode" "[I", Cond.fieldLink RX13 235 "MeetingHouseModel" "sLine" "[I", Cond.fieldLink RX13 238 "MeetingHouseModel" "sUnit" "[I"]
def wB_1 : List Cond := [Cond.fieldLink RX13 241 "MeetingHouseModel" "sSlot" "[I", Cond.arrayClass .boolean, Cond.fieldLink RX13 244 "MeetingHouseModel" "sFormal" "[Z", Cond.fieldLink RX13 248 "MeetingHouseModel" "sOf" "[I", Cond.fieldLink RX13 251 "MeetingHouseModel" "sE" "[I", Cond.fieldLink RX13 254 "MeetingHouseModel" "knownSymbol" "[I", Cond.fieldLink RX13 257 "MeetingHouseModel" "unitAround" "[I", Cond.fieldLink RX13 260 "MeetingHouseModel" "unitSlots" "[I", Cond.fieldLink RX13 263 "MeetingHouseModel" "unitOf" "[I", Cond.fieldLink RX13 266 "MeetingHouseModel" "symbolsFrom" "[I", Cond.fieldLink RX13 269 "MeetingHouseModel" "ownFrom" "[I", Cond.fieldLink RX13 272 "MeetingHouseModel" "sConstant" "[Z", Cond.fieldLink RX13 275 "MeetingHouseModel" "sValue" "[I", Cond.fieldLink RX13 278 "MeetingHouseModel" "tried" "[I", Cond.fieldLink RX13 281 "MeetingHouseModel" "isTried" "[Z", Cond.arrayClass .long, Cond.fieldLink RX13 284 "MeetingHouseModel" "weightOf" "[J", Cond.fieldLink RX13 288 "MeetingHouseModel" "baseOf" "[I", Cond.fieldLink RX13 291 "MeetingHouseModel" "countOf" "[I", Cond.constant RX13 294 (32768), Cond.fieldLink RX13 295 "MeetingHouseModel" "effectOf" "[I", Cond.fieldLink RX13 298 "MeetingHouseModel" "effectHow" "[I", Cond.fieldLink RX13 301 "MeetingHouseModel" "effectFrom" "[I", Cond.fieldLink RX13 304 "MeetingHouseModel" "effectTo" "[I", Cond.fieldLink RX13 307 "MeetingHouseModel" "hasTalk" "[Z", Cond.fieldLink RX13 310 "MeetingHouseModel" "placeBits" "[J", Cond.fieldLink RX13 313 "MeetingHouseModel" "freeSymbol" "[I", Cond.fieldLink RX13 316 "MeetingHouseModel" "isFixed" "[Z", Cond.fieldLink RX13 319 "MeetingHouseModel" "keptAt" "[I", Cond.fieldLink RX13 322 "MeetingHouseModel" "keptBits" "[J", Cond.fieldLink RX13 325 "MeetingHouseModel" "argSymbol" "[I", Cond.fieldLink RX13 328 "MeetingHouseModel" "argAll" "[Z", Cond.fieldLink RX13 331 "MeetingHouseModel" "argBits" "[J", Cond.fieldLink RX13 334 "MeetingHouseModel" "touchedSymbol" "[I", Cond.fieldLink RX13 337 "MeetingHouseModel" "aheadAll" "[Z", Cond.fieldLink RX13 340 "MeetingHouseModel" "aheadBits" "[J", Cond.fieldLink RX13 343 "MeetingHouseModel" "nowAll" "[Z", Cond.fieldLink RX13 346 "MeetingHouseModel" "nowBits" "[J", Cond.constant RX13 349 (65536), Cond.fieldLink RX13 350 "MeetingHouseModel" "heap" "[I"]
def wB_2 : List Cond := [Cond.fieldLink RX13 353 "MeetingHouseModel" "changedBy" "[I", Cond.fieldLink RX13 356 "MeetingHouseModel" "usedBy" "[I", Cond.fieldLink RX13 359 "MeetingHouseModel" "pieceAt" "[I", Cond.fieldLink RX13 362 "MeetingHouseModel" "pieceSize" "[I", Cond.classLink RX13 365 "[I", Cond.fieldLink RX13 366 "MeetingHouseModel" "pages" "[[I", Cond.fieldLink RX13 370 "MeetingHouseModel" "gapAt" "[I", Cond.fieldLink RX13 373 "MeetingHouseModel" "gapSize" "[I", Cond.fieldLink RX13 376 "MeetingHouseModel" "out" "[I", Cond.fieldLink RX13 379 "MeetingHouseModel" "input" "[I", Cond.fieldLink RX13 382 "MeetingHouseModel" "meeting" "[I", Cond.fieldLink RX13 385 "MeetingHouseModel" "order" "[I", Cond.fieldLink RX13 388 "MeetingHouseModel" "isSlot" "[Z", Cond.fieldLink RX13 391 "MeetingHouseModel" "pNumber" "[I", Cond.fieldLink RX13 394 "MeetingHouseModel" "pState" "[I", Cond.fieldLink RX13 397 "MeetingHouseModel" "pParent" "[I", Cond.fieldLink RX13 400 "MeetingHouseModel" "pFrame" "[I", Cond.fieldLink RX13 403 "MeetingHouseModel" "pOwn" "[I", Cond.fieldLink RX13 406 "MeetingHouseModel" "pTop" "[I", Cond.fieldLink RX13 409 "MeetingHouseModel" "pLeft" "[I", Cond.fieldLink RX13 412 "MeetingHouseModel" "pLine" "[I", Cond.fieldLink RX13 415 "MeetingHouseModel" "pFault" "[I", Cond.fieldLink RX13 418 "MeetingHouseModel" "pChannel" "[I", Cond.fieldLink RX13 421 "MeetingHouseModel" "pTime" "[I", Cond.fieldLink RX13 424 "MeetingHouseModel" "pBlock" "[I", Cond.fieldLink RX13 427 "MeetingHouseModel" "pSize" "[I", Cond.fieldLink RX13 430 "MeetingHouseModel" "pDone" "[Z", Cond.fieldLink RX13 433 "MeetingHouseModel" "pCalls" "[I", Cond.fieldLink RX13 436 "MeetingHouseModel" "sheets" "[[I", Cond.fieldLink RX13 439 "MeetingHouseModel" "tableAt" "[I", Cond.fieldLink RX13 442 "MeetingHouseModel" "tableSize" "[I", Cond.fieldLink RX13 445 "MeetingHouseModel" "vAt" "[I", Cond.fieldLink RX13 448 "MeetingHouseModel" "vSize" "[I", Cond.methodLink RX13 9 yX12_init, Cond.instanceMethod yX12_init, Cond.code yX12_init cX12_init 1 none, Cond.methodLink RX12 3 yR4, Cond.instanceMethod yR4, Cond.code yR4 cR4 5 none, Cond.initialized RRt]
def wB_3 : List Cond := [Cond.methodLink RRt 16 yE4, Cond.instanceMethod yE4, Cond.code yE4 cE4 5 none, Cond.initialized REx, Cond.methodLink REx 16 yT4, Cond.instanceMethod yT4, Cond.code yT4 cT4 5 none, Cond.initialized RTh, Cond.methodLink RTh 1 objectInit, Cond.fieldLink RTh 7 RTh "cause" "Ljava/lang/Throwable;", Cond.fieldLink RTh 13 RTh "UNASSIGNED_STACK" "[Ljava/lang/StackTraceElement;", Cond.fieldLink RTh 17 RTh "stackTrace" "[Ljava/lang/StackTraceElement;", Cond.fieldLink RTh 20 RTh "SUPPRESSED_SENTINEL" "Ljava/util/List;", Cond.fieldLink RTh 24 RTh "suppressedExceptions" "Ljava/util/List;", Cond.fieldLink RTh 31 RTh "detailMessage" "Ljava/lang/String;", Cond.fieldLink RX13 451 "MeetingHouseModel" "thrown" "I", Cond.fieldLink RX13 1122 "MeetingHouseModel" "begun" "Z", Cond.code yX13_process_ cX13_process_ 5 (some .int), Cond.code yX13_back cX13_back 2 (some .int), Cond.fieldLink RX13 455 "MeetingHouseModel" "taped" "I", Cond.code yX13_begin cX13_begin 3 none, Cond.fieldLink RX13 1119 "MeetingHouseModel" "there" "Z", Cond.code yX13_run cX13_run 5 (some .int), Cond.code yX13_thrown cX13_thrown 1 (some .int), Cond.code yX13_state cX13_state 1 (some .int), Cond.code yX13_count cX13_count 4 (some .int), Cond.methodLink RX13 1501 yX13_state, Cond.instanceMethod yX13_state, Cond.selects RX13 yX13_state yX13_state, Cond.initialized RX13, Cond.code yX13_key cX13_key 4 (some .boolean), Cond.code yX13_output cX13_output 2 (some .int), Cond.code yX13_cell cX13_cell 7 (some .int), Cond.code yX13_meeting cX13_meeting 3 (some .int), Cond.code yX13_clashes cX13_clashes 1 (some .int), Cond.code yX13_put cX13_put 3 none, Cond.code yX13_feed cX13_feed 6 (some .int), Cond.methodLink RX13 458 yX13_put, Cond.instanceMethod yX13_put, Cond.selects RX13 yX13_put yX13_put]
def wB_4 : List Cond := [Cond.code yX13_token cX13_token 5 none, Cond.fieldLink RX13 472 "MeetingHouseModel" "tokens" "I", Cond.code yX13_scanAll cX13_scanAll 7 none, Cond.fieldLink RX13 475 "MeetingHouseModel" "names" "I", Cond.fieldLink RX13 478 "MeetingHouseModel" "nameEnd" "I", Cond.fieldLink RX13 525 "MeetingHouseModel" "strings" "I", Cond.fieldLink RX13 528 "MeetingHouseModel" "stringEnd" "I", Cond.fieldLink RX13 531 "MeetingHouseModel" "realTokens" "I", Cond.fieldLink RX13 534 "MeetingHouseModel" "realLines" "I", Cond.fieldLink RX13 462 "MeetingHouseModel" "at" "I", Cond.methodLink RX13 540 yX13_token, Cond.instanceMethod yX13_token, Cond.selects RX13 yX13_token yX13_token, Cond.code yX13_look cX13_look 1 (some .int), Cond.fieldLink RX13 547 "MeetingHouseModel" "t" "I", Cond.code yX13_isAt cX13_isAt 2 (some .boolean), Cond.methodLink RX13 560 yX13_look, Cond.instanceMethod yX13_look, Cond.selects RX13 yX13_look yX13_look, Cond.code yX13_stop cX13_stop 3 (some (.object "MeetingHouseModel$Halt")), Cond.fieldLink RX13 550 "MeetingHouseModel" "fault" "I", Cond.fieldLink RX13 553 "MeetingHouseModel" "faultLine" "I", Cond.code yX13_lineAt cX13_lineAt 3 none, Cond.methodLink RX13 578 yX13_isAt, Cond.instanceMethod yX13_isAt, Cond.selects RX13 yX13_isAt yX13_isAt, Cond.methodLink RX13 556 yX13_stop, Cond.instanceMethod yX13_stop, Cond.selects RX13 yX13_stop yX13_stop, Cond.code yX13_process cX13_process 5 (some .int), Cond.methodLink RX13 588 yX13_lineAt, Cond.instanceMethod yX13_lineAt, Cond.selects RX13 yX13_lineAt yX13_lineAt, Cond.codeWith yX13_parses cX13_parses 2 (some .boolean) [(20, 45, 46, 7)], Cond.fieldLink RX13 544 "MeetingHouseModel" "nodes" "I", Cond.fieldLink RX13 669 "MeetingHouseModel" "open" "I", Cond.methodLink RX13 604 yX13_process, Cond.instanceMethod yX13_process, Cond.selects RX13 yX13_process yX13_process, Cond.code yX13_read cX13_read 1 (some .int)]
def wB_5 : List Cond := [Cond.methodLink RX13 1116 yX13_scanAll, Cond.instanceMethod yX13_scanAll, Cond.selects RX13 yX13_scanAll yX13_scanAll, Cond.methodLink RX13 1125 yX13_parses, Cond.instanceMethod yX13_parses, Cond.selects RX13 yX13_parses yX13_parses, Cond.code yX5_init cX5_init 2 none, Cond.methodLink RX5 3 objectInit, Cond.fieldLink RX5 9 "MeetingHouse$Proc" "held" "[I", Cond.fieldLink RX5 15 "MeetingHouse$Proc" "places" "[I", Cond.fieldLink RX5 18 "MeetingHouse$Proc" "row" "I", Cond.code yX2_init cX2_init 1 none, Cond.methodLink RX2 3 objectInit, Cond.fieldLink RX2 9 "MeetingHouse$Heap" "cells" "[I", Cond.fieldLink RX2 15 "MeetingHouse$Heap" "start" "[I", Cond.fieldLink RX2 18 "MeetingHouse$Heap" "length" "[I", Cond.fieldLink RX2 21 "MeetingHouse$Heap" "line" "[I", Cond.fieldLink RX2 24 "MeetingHouse$Heap" "each" "[I", Cond.fieldLink RX2 27 "MeetingHouse$Heap" "before" "[I", Cond.fieldLink RX2 30 "MeetingHouse$Heap" "after" "[I", Cond.code yX4_init cX4_init 2 none, Cond.methodLink RX4 3 objectInit, Cond.fieldLink RX4 9 "MeetingHouse$Names" "kind" "[I", Cond.fieldLink RX4 15 "MeetingHouse$Names" "spec" "[I", Cond.fieldLink RX4 18 "MeetingHouse$Names" "number" "[I", Cond.fieldLink RX4 21 "MeetingHouse$Names" "of" "[I", Cond.fieldLink RX4 24 "MeetingHouse$Names" "node" "[I", Cond.fieldLink RX4 27 "MeetingHouse$Names" "flags" "[I", Cond.fieldLink RX4 30 "MeetingHouse$Names" "slot" "[I", Cond.fieldLink RX4 33 "MeetingHouse$Names" "title" "[I", Cond.fieldLink RX4 36 "MeetingHouse$Names" "before" "[I", Cond.fieldLink RX4 39 "MeetingHouse$Names" "latest" "[I", Cond.fieldLink RX4 42 "MeetingHouse$Names" "stamps" "[I", Cond.fieldLink RX4 45 "MeetingHouse$Names" "visible" "[I", Cond.fieldLink RX4 48 "MeetingHouse$Names" "tree" "LMeetingHouse$Tree;", Cond.code yX9_init cX9_init 3 none, Cond.methodLink RX9 3 objectInit, Cond.fieldLink RX9 9 "MeetingHouse$Types" "marks" "[I", Cond.fieldLink RX9 15 "MeetingHouse$Types" "tree" "LMeetingHouse$Tree;", Cond.fieldLink RX9 19 "MeetingHouse$Types" "names" "LMeetingHouse$Names;"]
def wB_6 : List Cond := [Cond.code yX6_init cX6_init 3 none, Cond.methodLink RX6 5 objectInit, Cond.fieldLink RX6 11 "MeetingHouse$Sides" "bound" "[J", Cond.fieldLink RX6 15 "MeetingHouse$Sides" "marks" "[I", Cond.fieldLink RX6 19 "MeetingHouse$Sides" "replicators" "[I", Cond.fieldLink RX6 22 "MeetingHouse$Sides" "values" "[I", Cond.fieldLink RX6 25 "MeetingHouse$Sides" "pair" "[I", Cond.constant RX6 28 (57400), Cond.fieldLink RX6 29 "MeetingHouse$Sides" "kept" "[I", Cond.fieldLink RX6 32 "MeetingHouse$Sides" "ahead" "[I", Cond.fieldLink RX6 35 "MeetingHouse$Sides" "rowOf" "[I", Cond.fieldLink RX6 38 "MeetingHouse$Sides" "rowMark" "[I", Cond.fieldLink RX6 41 "MeetingHouse$Sides" "tree" "LMeetingHouse$Tree;", Cond.fieldLink RX6 45 "MeetingHouse$Sides" "names" "LMeetingHouse$Names;", Cond.code yX10_init cX10_init 4 none, Cond.methodLink RX10 3 objectInit, Cond.fieldLink RX10 9 "MeetingHouse$Uses" "line" "[I", Cond.fieldLink RX10 15 "MeetingHouse$Uses" "root" "[I", Cond.fieldLink RX10 18 "MeetingHouse$Uses" "index" "[I", Cond.fieldLink RX10 21 "MeetingHouse$Uses" "flags" "[I", Cond.constant RX10 24 (44000), Cond.fieldLink RX10 25 "MeetingHouse$Uses" "outside" "[I", Cond.fieldLink RX10 28 "MeetingHouse$Uses" "outsideFrom" "[I", Cond.fieldLink RX10 31 "MeetingHouse$Uses" "outsideTo" "[I", Cond.fieldLink RX10 34 "MeetingHouse$Uses" "pars" "[I", Cond.fieldLink RX10 37 "MeetingHouse$Uses" "gathered" "[I", Cond.fieldLink RX10 40 "MeetingHouse$Uses" "touched" "[I", Cond.fieldLink RX10 43 "MeetingHouse$Uses" "tree" "LMeetingHouse$Tree;", Cond.fieldLink RX10 47 "MeetingHouse$Uses" "names" "LMeetingHouse$Names;", Cond.fieldLink RX10 51 "MeetingHouse$Uses" "sides" "LMeetingHouse$Sides;", Cond.code yX0_init cX0_init 3 none, Cond.methodLink RX0 3 objectInit, Cond.constant RX0 11 (40000), Cond.fieldLink RX0 12 "MeetingHouse$Coder" "code" "[I", Cond.fieldLink RX0 16 "MeetingHouse$Coder" "topSlots" "[I", Cond.fieldLink RX0 19 "MeetingHouse$Coder" "topCells" "[I", Cond.fieldLink RX0 22 "MeetingHouse$Coder" "tree" "LMeetingHouse$Tree;", Cond.fieldLink RX0 26 "MeetingHouse$Coder" "names" "LMeetingHouse$Names;", Cond.code yX8_init cX8_init 2 none, Cond.methodLink RX8 3 objectInit]
def wB_7 : List Cond := [Cond.fieldLink RX8 9 "MeetingHouse$Tree" "kind" "[I", Cond.fieldLink RX8 15 "MeetingHouse$Tree" "line" "[I", Cond.fieldLink RX8 18 "MeetingHouse$Tree" "a" "[I", Cond.fieldLink RX8 21 "MeetingHouse$Tree" "b" "[I", Cond.fieldLink RX8 24 "MeetingHouse$Tree" "c" "[I", Cond.fieldLink RX8 27 "MeetingHouse$Tree" "next" "[I", Cond.fieldLink RX8 30 "MeetingHouse$Tree" "val" "[I", Cond.fieldLink RX8 33 "MeetingHouse$Tree" "sym" "[I", Cond.fieldLink RX8 36 "MeetingHouse$Tree" "type" "[I", Cond.fieldLink RX8 39 "MeetingHouse$Tree" "worth" "[I", Cond.fieldLink RX8 42 "MeetingHouse$Tree" "text" "LMeetingHouse$Text;", Cond.code yX7_init cX7_init 1 none, Cond.methodLink RX7 3 objectInit, Cond.arrayClass .byte, Cond.fieldLink RX7 9 "MeetingHouse$Text" "tape" "[B", Cond.fieldLink RX7 15 "MeetingHouse$Text" "kind" "[I", Cond.fieldLink RX7 19 "MeetingHouse$Text" "value" "[I", Cond.fieldLink RX7 22 "MeetingHouse$Text" "line" "[I", Cond.fieldLink RX7 25 "MeetingHouse$Text" "blanks" "[I", Cond.fieldLink RX7 28 "MeetingHouse$Text" "signs" "[I", Cond.fieldLink RX7 31 "MeetingHouse$Text" "letters" "[B", Cond.fieldLink RX7 34 "MeetingHouse$Text" "nameFrom" "[I", Cond.fieldLink RX7 37 "MeetingHouse$Text" "nameNext" "[I", Cond.fieldLink RX7 40 "MeetingHouse$Text" "bucket" "[I", Cond.fieldLink RX1 11 "MeetingHouse$Hall" "procs" "[LMeetingHouse$Proc;", Cond.classLink RX1 9 RX5, Cond.instantiable RX5 17, Cond.initialized RX5, Cond.methodLink RX1 34 yX5_init, Cond.instanceMethod yX5_init, Cond.fieldLink RX1 17 "MeetingHouse$Hall" "order" "[I", Cond.code yX1_init cX1_init 2 none, Cond.methodLink RX1 3 objectInit, Cond.fieldLink RX1 21 "MeetingHouse$Hall" "shown" "[B", Cond.fieldLink RX1 25 "MeetingHouse$Hall" "keys" "[I", Cond.fieldLink RX1 28 "MeetingHouse$Hall" "message" "[I", Cond.fieldLink RX1 31 "MeetingHouse$Hall" "facts" "[I", Cond.code yX3_init cX3_init 3 none, Cond.methodLink RX3 3 objectInit, Cond.classLink RX3 9 RX2]
def wB_8 : List Cond := [Cond.instantiable RX2 13, Cond.initialized RX2, Cond.instanceMethod yX2_init, Cond.fieldLink RX3 12 "MeetingHouse$Machine" "heap" "LMeetingHouse$Heap;", Cond.classLink RX3 18 RX1, Cond.instantiable RX1 16, Cond.initialized RX1, Cond.methodLink RX3 20 yX1_init, Cond.instanceMethod yX1_init, Cond.fieldLink RX3 21 "MeetingHouse$Machine" "hall" "LMeetingHouse$Hall;", Cond.fieldLink RX3 25 "MeetingHouse$Machine" "rows" "[I", Cond.fieldLink RX3 29 "MeetingHouse$Machine" "stack" "[I", Cond.fieldLink RX3 32 "MeetingHouse$Machine" "refs" "[I", Cond.fieldLink RX3 35 "MeetingHouse$Machine" "sizes" "[I", Cond.fieldLink RX3 38 "MeetingHouse$Machine" "scratch" "[I", Cond.fieldLink RX3 41 "MeetingHouse$Machine" "coder" "LMeetingHouse$Coder;", Cond.fieldLink RX3 45 "MeetingHouse$Machine" "text" "LMeetingHouse$Text;", Cond.fieldLink RX3 49 "MeetingHouse$Hall" "procs" "[LMeetingHouse$Proc;", Cond.fieldLink RX3 53 "MeetingHouse$Machine" "current" "LMeetingHouse$Proc;", Cond.code yX11_init cX11_init 1 none, Cond.methodLink RX11 3 objectInit, Cond.classLink RX11 9 RX7, Cond.instantiable RX7 19, Cond.initialized RX7, Cond.instanceMethod yX7_init, Cond.fieldLink RX11 12 "MeetingHouse" "text" "LMeetingHouse$Text;", Cond.classLink RX11 16 RX8, Cond.instantiable RX8 17, Cond.initialized RX8, Cond.methodLink RX11 18 yX8_init, Cond.instanceMethod yX8_init, Cond.fieldLink RX11 21 "MeetingHouse" "tree" "LMeetingHouse$Tree;", Cond.classLink RX11 25 RX4, Cond.instantiable RX4 16, Cond.initialized RX4, Cond.methodLink RX11 27 yX4_init, Cond.instanceMethod yX4_init, Cond.fieldLink RX11 30 "MeetingHouse" "names" "LMeetingHouse$Names;", Cond.classLink RX11 34 RX9, Cond.instantiable RX9 6]
def wB_9 : List Cond := [Cond.initialized RX9, Cond.methodLink RX11 36 yX9_init, Cond.instanceMethod yX9_init, Cond.fieldLink RX11 39 "MeetingHouse" "types" "LMeetingHouse$Types;", Cond.classLink RX11 43 RX6, Cond.instantiable RX6 17, Cond.initialized RX6, Cond.methodLink RX11 45 yX6_init, Cond.instanceMethod yX6_init, Cond.fieldLink RX11 46 "MeetingHouse" "sides" "LMeetingHouse$Sides;", Cond.classLink RX11 50 RX10, Cond.instantiable RX10 19, Cond.initialized RX10, Cond.methodLink RX11 52 yX10_init, Cond.instanceMethod yX10_init, Cond.fieldLink RX11 55 "MeetingHouse" "uses" "LMeetingHouse$Uses;", Cond.classLink RX11 59 RX0, Cond.instantiable RX0 8, Cond.initialized RX0, Cond.methodLink RX11 61 yX0_init, Cond.instanceMethod yX0_init, Cond.fieldLink RX11 62 "MeetingHouse" "coder" "LMeetingHouse$Coder;", Cond.classLink RX11 66 RX3, Cond.instantiable RX3 21, Cond.initialized RX3, Cond.methodLink RX11 68 yX3_init, Cond.instanceMethod yX3_init, Cond.fieldLink RX11 71 "MeetingHouse" "machine" "LMeetingHouse$Machine;", Cond.fieldLink RX11 75 "MeetingHouse" "hasProgram" "Z", Cond.code yX3_press cX3_press 3 (some .boolean), Cond.fieldLink RX3 78 "MeetingHouse$Machine" "begun" "Z", Cond.code yX3_shown cX3_shown 2 (some .int), Cond.code yX3_tellProcess cX3_tellProcess 5 (some .int), Cond.code yX3_tellCell cX3_tellCell 5 (some .int), Cond.code yX3_tellMeeting cX3_tellMeeting 3 (some .int), Cond.code yX3_tally cX3_tally 2 (some .int), Cond.code yX11_key cX11_key 2 (some .boolean), Cond.methodLink RX11 149 yX3_press, Cond.instanceMethod yX3_press, Cond.selects RX3 yX3_press yX3_press]
def wB_10 : List Cond := [Cond.code yX11_output cX11_output 2 (some .int), Cond.methodLink RX11 153 yX3_shown, Cond.instanceMethod yX3_shown, Cond.selects RX3 yX3_shown yX3_shown, Cond.code yX11_process cX11_process 3 (some .int), Cond.methodLink RX11 156 yX3_tellProcess, Cond.instanceMethod yX3_tellProcess, Cond.selects RX3 yX3_tellProcess yX3_tellProcess, Cond.code yX11_cell cX11_cell 2 (some .int), Cond.methodLink RX11 160 yX3_tellCell, Cond.instanceMethod yX3_tellCell, Cond.selects RX3 yX3_tellCell yX3_tellCell, Cond.code yX11_meeting cX11_meeting 3 (some .int), Cond.methodLink RX11 163 yX3_tellMeeting, Cond.instanceMethod yX3_tellMeeting, Cond.selects RX3 yX3_tellMeeting yX3_tellMeeting, Cond.code yX11_clashes cX11_clashes 1 (some .int), Cond.code yX11_count cX11_count 2 (some .int), Cond.methodLink RX11 115 yX3_tally, Cond.instanceMethod yX3_tally, Cond.selects RX3 yX3_tally yX3_tally, Cond.fieldLink RX11 79 "MeetingHouse$Text" "length" "I", Cond.code yX11_back cX11_back 2 (some .int), Cond.code yX7_append cX7_append 3 none, Cond.fieldLink RX7 43 "MeetingHouse$Text" "length" "I", Cond.code yX11_feed cX11_feed 6 (some .int), Cond.methodLink RX11 83 yX7_append, Cond.instanceMethod yX7_append, Cond.selects RX7 yX7_append yX7_append]
def wB : List Cond := wB_0 ++ (wB_1 ++ (wB_2 ++ (wB_3 ++ (wB_4 ++ (wB_5 ++ (wB_6 ++ (wB_7 ++ (wB_8 ++ (wB_9 ++ (wB_10))))))))))
def wP : List Cond := wB ++ (wsX120 ++ (wsX130 ++ (wsX00 ++ (wsX10 ++ (wsX20 ++ (wsX30 ++ (wsX40 ++ (wsX50 ++ (wsX60 ++ (wsX70 ++ (wsX80 ++ (wsX90 ++ (wsX100 ++ (wsX110))))))))))))))
theorem bP {k0 w : Cond} (i : Nat) (h : wB[i]? = some w) : w ∈ k0 :: wP := List.mem_cons_of_mem _ (List.mem_append_left _ (List.mem_of_getElem? h))
theorem iX12 {k0 : Cond} : ∀ w ∈ u_ws RX12 TX12 6, w ∈ k0 :: wP := fun _ h => List.mem_cons_of_mem _ (List.mem_append_right _ (List.mem_append_left _ h))
theorem iX13 {k0 : Cond} : ∀ w ∈ u_ws RX13 TX13 180, w ∈ k0 :: wP := fun _ h => List.mem_cons_of_mem _ (List.mem_append_right _ (List.mem_append_right _ (List.mem_append_left _ h)))
theorem iX0 {k0 : Cond} : ∀ w ∈ u_ws RX0 TX0 8, w ∈ k0 :: wP := fun _ h => List.mem_cons_of_mem _ (List.mem_append_right _ (List.mem_append_right _ (List.mem_append_right _ (List.mem_append_left _ h))))
theorem iX1 {k0 : Cond} : ∀ w ∈ u_ws RX1 TX1 16, w ∈ k0 :: wP := fun _ h => List.mem_cons_of_mem _ (List.mem_append_right _ (List.mem_append_right _ (List.mem_append_right _ (List.mem_append_right _ (List.mem_append_left _ h)))))
theorem iX2 {k0 : Cond} : ∀ w ∈ u_ws RX2 TX2 13, w ∈ k0 :: wP := fun _ h => List.mem_cons_of_mem _ (List.mem_append_right _ (List.mem_append_right _ (List.mem_append_right _ (List.mem_append_right _ (List.mem_append_right _ (List.mem_append_left _ h))))))
theorem iX3 {k0 : Cond} : ∀ w ∈ u_ws RX3 TX3 21, w ∈ k0 :: wP := fun _ h => List.mem_cons_of_mem _ (List.mem_append_right _ (List.mem_append_right _ (List.mem_append_right _ (List.mem_append_right _ (List.mem_append_right _ (List.mem_append_right _ (List.mem_append_left _ h)))))))
theorem iX4 {k0 : Cond} : ∀ w ∈ u_ws RX4 TX4 16, w ∈ k0 :: wP := fun _ h => List.mem_cons_of_mem _ (List.mem_append_right _ (List.mem_append_right _ (List.mem_append_right _ (List.mem_append_right _ (List.mem_append_right _ (List.mem_append_right _ (List.mem_append_right _ (List.mem_append_left _ h))))))))
theorem iX5 {k0 : Cond} : ∀ w ∈ u_ws RX5 TX5 17, w ∈ k0 :: wP := fun _ h => List.mem_cons_of_mem _ (List.mem_append_right _ (List.mem_append_right _ (List.mem_append_right _ (List.mem_append_right _ (List.mem_append_right _ (List.mem_append_right _ (List.mem_append_right _ (List.mem_append_right _ (List.mem_append_left _ h)))))))))
theorem iX6 {k0 : Cond} : ∀ w ∈ u_ws RX6 TX6 17, w ∈ k0 :: wP := fun _ h => List.mem_cons_of_mem _ (List.mem_append_right _ (List.mem_append_right _ (List.mem_append_right _ (List.mem_append_right _ (List.mem_append_right _ (List.mem_append_right _ (List.mem_append_right _ (List.mem_append_right _ (List.mem_append_right _ (List.mem_append_left _ h))))))))))
theorem iX7 {k0 : Cond} : ∀ w ∈ u_ws RX7 TX7 19, w ∈ k0 :: wP := fun _ h => List.mem_cons_of_mem _ (List.mem_append_right _ (List.mem_append_right _ (List.mem_append_right _ (List.mem_append_right _ (List.mem_append_right _ (List.mem_append_right _ (List.mem_append_right _ (List.mem_append_right _ (List.mem_append_right _ (List.mem_append_right _ (List.mem_append_left _ h)))))))))))
theorem iX8 {k0 : Cond} : ∀ w ∈ u_ws RX8 TX8 17, w ∈ k0 :: wP := fun _ h => List.mem_cons_of_mem _ (List.mem_append_right _ (List.mem_append_right _ (List.mem_append_right _ (List.mem_append_right _ (List.mem_append_right _ (List.mem_append_right _ (List.mem_append_right _ (List.mem_append_right _ (List.mem_append_right _ (List.mem_append_right _ (List.mem_append_right _ (List.mem_append_left _ h))))))))))))
theorem iX9 {k0 : Cond} : ∀ w ∈ u_ws RX9 TX9 6, w ∈ k0 :: wP := fun _ h => List.mem_cons_of_mem _ (List.mem_append_right _ (List.mem_append_right _ (List.mem_append_right _ (List.mem_append_right _ (List.mem_append_right _ (List.mem_append_right _ (List.mem_append_right _ (List.mem_append_right _ (List.mem_append_right _ (List.mem_append_right _ (List.mem_append_right _ (List.mem_append_right _ (List.mem_append_left _ h)))))))))))))
theorem iX10 {k0 : Cond} : ∀ w ∈ u_ws RX10 TX10 19, w ∈ k0 :: wP := fun _ h => List.mem_cons_of_mem _ (List.mem_append_right _ (List.mem_append_right _ (List.mem_append_right _ (List.mem_append_right _ (List.mem_append_right _ (List.mem_append_right _ (List.mem_append_right _ (List.mem_append_right _ (List.mem_append_right _ (List.mem_append_right _ (List.mem_append_right _ (List.mem_append_right _ (List.mem_append_right _ (List.mem_append_left _ h))))))))))))))
theorem iX11 {k0 : Cond} : ∀ w ∈ u_ws RX11 TX11 9, w ∈ k0 :: wP := fun _ h => List.mem_cons_of_mem _ (List.mem_append_right _ (List.mem_append_right _ (List.mem_append_right _ (List.mem_append_right _ (List.mem_append_right _ (List.mem_append_right _ (List.mem_append_right _ (List.mem_append_right _ (List.mem_append_right _ (List.mem_append_right _ (List.mem_append_right _ (List.mem_append_right _ (List.mem_append_right _ (List.mem_append_right _ (h)))))))))))))))
/-- every word is good: a callee's words are among its caller's -/
theorem wB_good : wB.all goodWord = true := by decide +kernel
theorem wX12_good : wsX120.all goodWord = true := by decide +kernel
theorem wX13_good : wsX130.all goodWord = true := by decide +kernel
theorem wX0_good : wsX00.all goodWord = true := by decide +kernel
theorem wX1_good : wsX10.all goodWord = true := by decide +kernel
theorem wX2_good : wsX20.all goodWord = true := by decide +kernel
theorem wX3_good : wsX30.all goodWord = true := by decide +kernel
theorem wX4_good : wsX40.all goodWord = true := by decide +kernel
theorem wX5_good : wsX50.all goodWord = true := by decide +kernel
theorem wX6_good : wsX60.all goodWord = true := by decide +kernel
theorem wX7_good : wsX70.all goodWord = true := by decide +kernel
theorem wX8_good : wsX80.all goodWord = true := by decide +kernel
theorem wX9_good : wsX90.all goodWord = true := by decide +kernel
theorem wX10_good : wsX100.all goodWord = true := by decide +kernel
theorem wX11_good : wsX110.all goodWord = true := by decide +kernel
theorem wP_good : ∀ w ∈ wP, goodWord w = true := fun w h => (List.mem_append.mp h).elim (List.all_eq_true.mp wB_good w) ((fun h => (List.mem_append.mp h).elim (List.all_eq_true.mp wX12_good w) ((fun h => (List.mem_append.mp h).elim (List.all_eq_true.mp wX13_good w) ((fun h => (List.mem_append.mp h).elim (List.all_eq_true.mp wX0_good w) ((fun h => (List.mem_append.mp h).elim (List.all_eq_true.mp wX1_good w) ((fun h => (List.mem_append.mp h).elim (List.all_eq_true.mp wX2_good w) ((fun h => (List.mem_append.mp h).elim (List.all_eq_true.mp wX3_good w) ((fun h => (List.mem_append.mp h).elim (List.all_eq_true.mp wX4_good w) ((fun h => (List.mem_append.mp h).elim (List.all_eq_true.mp wX5_good w) ((fun h => (List.mem_append.mp h).elim (List.all_eq_true.mp wX6_good w) ((fun h => (List.mem_append.mp h).elim (List.all_eq_true.mp wX7_good w) ((fun h => (List.mem_append.mp h).elim (List.all_eq_true.mp wX8_good w) ((fun h => (List.mem_append.mp h).elim (List.all_eq_true.mp wX9_good w) ((fun h => (List.mem_append.mp h).elim (List.all_eq_true.mp wX10_good w) (List.all_eq_true.mp wX11_good w)))))))))))))))))))))))))))
theorem gP {k0 : Cond} (w : Cond) (i : Nat) (h : wB[i]? = some w) : GoodIn (k0 :: wP) (w :: wP) := by
  have hw : w ∈ wP := List.mem_append_left _ (List.mem_of_getElem? h)
  intro x hx
  rcases List.mem_cons.mp hx with e | hx
  · subst e
    exact ⟨List.mem_cons_of_mem _ hw, good_of_word (wP_good _ hw)⟩
  · exact ⟨List.mem_cons_of_mem _ hx, good_of_word (wP_good _ hx)⟩
/-- what matters of the fields of a MeetingHouseModel that was made: the halt, the tape, the tokens' rows; an empty tape, no program, no run -/
abbrev mL (qh q2 q7 q8 q9 q10 : Nat) : List (Nat × Value) := [(0, .ref qh), (2, .ref q2), (7, .ref q7), (8, .ref q8), (9, .ref q9), (10, .ref q10), (3, .int 0), (110, .int 0), (123, .int 0)]
end
section
set_option maxHeartbeats 4000000 in
set_option maxRecDepth 100000 in
theorem mi_1 {p : Program} {l : Launch} {e : Env} {R : Room} {s : State} {m : MethodId} {args : Array Value} {below : List Frame} {meth : Method} {c : Code} {H : Heap} {locs : List Loc} {cells slots : Nat} {Q : State → Prop} {ls : Array Slot} {D : va_G} {A : Nat → Prop} {tys : List (ClassId × FieldType)} {H0 : Heap} {h0 : Nat} {fs : List Value} {wr : va_W} {qh q2 q7 q8 q9 q10 : Nat} {k0 : Cond} {cl : List vw_C} {ci : Nat}
    (hx : p.tables.exec = Jvm.exec) (hb : c.code = cX13_init) (hts : ∀ w ∈ k0 :: wP, w.before args s = true) (hown : s.vm.findClass RX13 = some m.cls) (hin2 : meth.name = "<init>") (hao : (Cond.arrayOver (.array .int)).before args s = true) (hc : cl[ci]? = some (RX13, TX13, 180)) (hl : lv_has ls 1 [(0, .ref h0)]) (hK : va_K D cl tys s) (hJ : kJ 180 (mL qh q2 q7 q8 q9 q10) fs) (hP : va_P D cl ((h0, .inr (ci, fs)) :: wr) H) (hD : va_D A ((h0, .inr (ci, fs)) :: wr)) (hS : va_S A H0 H locs)
    (hrc : cells + 18 ≤ R.cells) (hrs : slots + 190104 ≤ R.slots)
    (kk : ∀ (H1 : Heap) (locs1 : List Loc) (fs1 : List Value), kJ 180 (mL qh q2 q7 q8 q9 q10) fs1 → va_P D cl ((h0, .inr (ci, fs1)) :: wr) H1 → va_D A ((h0, .inr (ci, fs1)) :: wr) → va_S A H0 H1 locs1 → W p l e R s m args below meth c H1 locs1 (cells + 18) (slots + 190104) Q (F0 m 612 ls [])) : W p l e R s m args below meth c H locs cells slots Q (F0 m 450 ls []) := by
  refine lv_aload_n hx hb dX13_init_450 rfl (lv_at hl 0 rfl) ?_
  refine lv_sipush (v := 6001) hx hb dX13_init_451 (by decide) ?_
  refine k_arrF hts iX13 tyX13 tyX13_ok nmX13 hx hb hown hin2 hK hc hJ hP hD hS (hts _ (bP 7 rfl)) 14 (by decide) (by decide) rfl (hts _ (bP 16 rfl)) rfl rfl (ty := .int) (by decide +kernel) (N' := 6001) (by decide) (by decide) (by decide) (by omega) (by omega) dX13_init_454 dX13_init_456 (fun H locs fs hJ hP hD hS => ?_)
  refine lv_aload_n hx hb dX13_init_459 rfl (lv_at hl 0 rfl) ?_
  refine lv_sipush (v := 6001) hx hb dX13_init_460 (by decide) ?_
  refine k_arrF hts iX13 tyX13 tyX13_ok nmX13 hx hb hown hin2 hK hc hJ hP hD hS (hts _ (bP 7 rfl)) 15 (by decide) (by decide) rfl (hts _ (bP 17 rfl)) rfl rfl (ty := .int) (by decide +kernel) (N' := 6001) (by decide) (by decide) (by decide) (by omega) (by omega) dX13_init_463 dX13_init_465 (fun H locs fs hJ hP hD hS => ?_)
  refine lv_aload_n hx hb dX13_init_468 rfl (lv_at hl 0 rfl) ?_
  refine lv_sipush (v := 6000) hx hb dX13_init_469 (by decide) ?_
  refine k_arrF hts iX13 tyX13 tyX13_ok nmX13 hx hb hown hin2 hK hc hJ hP hD hS (hts _ (bP 7 rfl)) 16 (by decide) (by decide) rfl (hts _ (bP 18 rfl)) rfl rfl (ty := .int) (by decide +kernel) (N' := 6000) (by decide) (by decide) (by decide) (by omega) (by omega) dX13_init_472 dX13_init_474 (fun H locs fs hJ hP hD hS => ?_)
  refine lv_aload_n hx hb dX13_init_477 rfl (lv_at hl 0 rfl) ?_
  refine lv_sipush (v := 3001) hx hb dX13_init_478 (by decide) ?_
  refine k_arrF hts iX13 tyX13 tyX13_ok nmX13 hx hb hown hin2 hK hc hJ hP hD hS (hts _ (bP 7 rfl)) 19 (by decide) (by decide) rfl (hts _ (bP 19 rfl)) rfl rfl (ty := .int) (by decide +kernel) (N' := 3001) (by decide) (by decide) (by decide) (by omega) (by omega) dX13_init_481 dX13_init_483 (fun H locs fs hJ hP hD hS => ?_)
  refine lv_aload_n hx hb dX13_init_486 rfl (lv_at hl 0 rfl) ?_
  refine lv_sipush (v := 3001) hx hb dX13_init_487 (by decide) ?_
  refine k_arrF hts iX13 tyX13 tyX13_ok nmX13 hx hb hown hin2 hK hc hJ hP hD hS (hts _ (bP 7 rfl)) 20 (by decide) (by decide) rfl (hts _ (bP 20 rfl)) rfl rfl (ty := .int) (by decide +kernel) (N' := 3001) (by decide) (by decide) (by decide) (by omega) (by omega) dX13_init_490 dX13_init_492 (fun H locs fs hJ hP hD hS => ?_)
  refine lv_aload_n hx hb dX13_init_495 rfl (lv_at hl 0 rfl) ?_
  refine lv_sipush (v := 6000) hx hb dX13_init_496 (by decide) ?_
  refine k_arrF hts iX13 tyX13 tyX13_ok nmX13 hx hb hown hin2 hK hc hJ hP hD hS (hts _ (bP 7 rfl)) 21 (by decide) (by decide) rfl (hts _ (bP 21 rfl)) rfl rfl (ty := .int) (by decide +kernel) (N' := 6000) (by decide) (by decide) (by decide) (by omega) (by omega) dX13_init_499 dX13_init_501 (fun H locs fs hJ hP hD hS => ?_)
  refine lv_aload_n hx hb dX13_init_504 rfl (lv_at hl 0 rfl) ?_
  refine lv_sipush (v := 14000) hx hb dX13_init_505 (by decide) ?_
  refine k_arrF hts iX13 tyX13 tyX13_ok nmX13 hx hb hown hin2 hK hc hJ hP hD hS (hts _ (bP 7 rfl)) 26 (by decide) (by decide) rfl (hts _ (bP 22 rfl)) rfl rfl (ty := .int) (by decide +kernel) (N' := 14000) (by decide) (by decide) (by decide) (by omega) (by omega) dX13_init_508 dX13_init_510 (fun H locs fs hJ hP hD hS => ?_)
  refine lv_aload_n hx hb dX13_init_513 rfl (lv_at hl 0 rfl) ?_
  refine lv_sipush (v := 14000) hx hb dX13_init_514 (by decide) ?_
  refine k_arrF hts iX13 tyX13 tyX13_ok nmX13 hx hb hown hin2 hK hc hJ hP hD hS (hts _ (bP 7 rfl)) 27 (by decide) (by decide) rfl (hts _ (bP 23 rfl)) rfl rfl (ty := .int) (by decide +kernel) (N' := 14000) (by decide) (by decide) (by decide) (by omega) (by omega) dX13_init_517 dX13_init_519 (fun H locs fs hJ hP hD hS => ?_)
  refine lv_aload_n hx hb dX13_init_522 rfl (lv_at hl 0 rfl) ?_
  refine lv_sipush (v := 14000) hx hb dX13_init_523 (by decide) ?_
  refine k_arrF hts iX13 tyX13 tyX13_ok nmX13 hx hb hown hin2 hK hc hJ hP hD hS (hts _ (bP 7 rfl)) 28 (by decide) (by decide) rfl (hts _ (bP 24 rfl)) rfl rfl (ty := .int) (by decide +kernel) (N' := 14000) (by decide) (by decide) (by decide) (by omega) (by omega) dX13_init_526 dX13_init_528 (fun H locs fs hJ hP hD hS => ?_)
  refine lv_aload_n hx hb dX13_init_531 rfl (lv_at hl 0 rfl) ?_
  refine lv_sipush (v := 14000) hx hb dX13_init_532 (by decide) ?_
  refine k_arrF hts iX13 tyX13 tyX13_ok nmX13 hx hb hown hin2 hK hc hJ hP hD hS (hts _ (bP 7 rfl)) 29 (by decide) (by decide) rfl (hts _ (bP 25 rfl)) rfl rfl (ty := .int) (by decide +kernel) (N' := 14000) (by decide) (by decide) (by decide) (by omega) (by omega) dX13_init_535 dX13_init_537 (fun H locs fs hJ hP hD hS => ?_)
  refine lv_aload_n hx hb dX13_init_540 rfl (lv_at hl 0 rfl) ?_
  refine lv_sipush (v := 14000) hx hb dX13_init_541 (by decide) ?_
  refine k_arrF hts iX13 tyX13 tyX13_ok nmX13 hx hb hown hin2 hK hc hJ hP hD hS (hts _ (bP 7 rfl)) 30 (by decide) (by decide) rfl (hts _ (bP 26 rfl)) rfl rfl (ty := .int) (by decide +kernel) (N' := 14000) (by decide) (by decide) (by decide) (by omega) (by omega) dX13_init_544 dX13_init_546 (fun H locs fs hJ hP hD hS => ?_)
  refine lv_aload_n hx hb dX13_init_549 rfl (lv_at hl 0 rfl) ?_
  refine lv_sipush (v := 14000) hx hb dX13_init_550 (by decide) ?_
  refine k_arrF hts iX13 tyX13 tyX13_ok nmX13 hx hb hown hin2 hK hc hJ hP hD hS (hts _ (bP 7 rfl)) 31 (by decide) (by decide) rfl (hts _ (bP 27 rfl)) rfl rfl (ty := .int) (by decide +kernel) (N' := 14000) (by decide) (by decide) (by decide) (by omega) (by omega) dX13_init_553 dX13_init_555 (fun H locs fs hJ hP hD hS => ?_)
  refine lv_aload_n hx hb dX13_init_558 rfl (lv_at hl 0 rfl) ?_
  refine lv_sipush (v := 14000) hx hb dX13_init_559 (by decide) ?_
  refine k_arrF hts iX13 tyX13 tyX13_ok nmX13 hx hb hown hin2 hK hc hJ hP hD hS (hts _ (bP 7 rfl)) 32 (by decide) (by decide) rfl (hts _ (bP 28 rfl)) rfl rfl (ty := .int) (by decide +kernel) (N' := 14000) (by decide) (by decide) (by decide) (by omega) (by omega) dX13_init_562 dX13_init_564 (fun H locs fs hJ hP hD hS => ?_)
  refine lv_aload_n hx hb dX13_init_567 rfl (lv_at hl 0 rfl) ?_
  refine lv_sipush (v := 14000) hx hb dX13_init_568 (by decide) ?_
  refine k_arrF hts iX13 tyX13 tyX13_ok nmX13 hx hb hown hin2 hK hc hJ hP hD hS (hts _ (bP 7 rfl)) 33 (by decide) (by decide) rfl (hts _ (bP 29 rfl)) rfl rfl (ty := .int) (by decide +kernel) (N' := 14000) (by decide) (by decide) (by decide) (by omega) (by omega) dX13_init_571 dX13_init_573 (fun H locs fs hJ hP hD hS => ?_)
  refine lv_aload_n hx hb dX13_init_576 rfl (lv_at hl 0 rfl) ?_
  refine lv_sipush (v := 14000) hx hb dX13_init_577 (by decide) ?_
  refine k_arrF hts iX13 tyX13 tyX13_ok nmX13 hx hb hown hin2 hK hc hJ hP hD hS (hts _ (bP 7 rfl)) 34 (by decide) (by decide) rfl (hts _ (bP 30 rfl)) rfl rfl (ty := .int) (by decide +kernel) (N' := 14000) (by decide) (by decide) (by decide) (by omega) (by omega) dX13_init_580 dX13_init_582 (fun H locs fs hJ hP hD hS => ?_)
  refine lv_aload_n hx hb dX13_init_585 rfl (lv_at hl 0 rfl) ?_
  refine lv_sipush (v := 14000) hx hb dX13_init_586 (by decide) ?_
  refine k_arrF hts iX13 tyX13 tyX13_ok nmX13 hx hb hown hin2 hK hc hJ hP hD hS (hts _ (bP 7 rfl)) 41 (by decide) (by decide) rfl (hts _ (bP 31 rfl)) rfl rfl (ty := .int) (by decide +kernel) (N' := 14000) (by decide) (by decide) (by decide) (by omega) (by omega) dX13_init_589 dX13_init_591 (fun H locs fs hJ hP hD hS => ?_)
  refine lv_aload_n hx hb dX13_init_594 rfl (lv_at hl 0 rfl) ?_
  refine lv_sipush (v := 14000) hx hb dX13_init_595 (by decide) ?_
  refine k_arrF hts iX13 tyX13 tyX13_ok nmX13 hx hb hown hin2 hK hc hJ hP hD hS (hts _ (bP 7 rfl)) 42 (by decide) (by decide) rfl (hts _ (bP 32 rfl)) rfl rfl (ty := .int) (by decide +kernel) (N' := 14000) (by decide) (by decide) (by decide) (by omega) (by omega) dX13_init_598 dX13_init_600 (fun H locs fs hJ hP hD hS => ?_)
  refine lv_aload_n hx hb dX13_init_603 rfl (lv_at hl 0 rfl) ?_
  refine lv_sipush (v := 6100) hx hb dX13_init_604 (by decide) ?_
  refine k_arrF hts iX13 tyX13 tyX13_ok nmX13 hx hb hown hin2 hK hc hJ hP hD hS (hts _ (bP 7 rfl)) 45 (by decide) (by decide) rfl (hts _ (bP 33 rfl)) rfl rfl (ty := .int) (by decide +kernel) (N' := 6100) (by decide) (by decide) (by decide) (by omega) (by omega) dX13_init_607 dX13_init_609 (fun H locs fs hJ hP hD hS => ?_)
  refine W.widen (k := cells + 18) (n := slots + 190104) (by omega) (by omega) ?_
  exact kk H locs fs hJ hP hD hS
set_option maxHeartbeats 4000000 in
set_option maxRecDepth 100000 in
theorem mi_2 {p : Program} {l : Launch} {e : Env} {R : Room} {s : State} {m : MethodId} {args : Array Value} {below : List Frame} {meth : Method} {c : Code} {H : Heap} {locs : List Loc} {cells slots : Nat} {Q : State → Prop} {ls : Array Slot} {D : va_G} {A : Nat → Prop} {tys : List (ClassId × FieldType)} {H0 : Heap} {h0 : Nat} {fs : List Value} {wr : va_W} {qh q2 q7 q8 q9 q10 : Nat} {k0 : Cond} {cl : List vw_C} {ci : Nat}
    (hx : p.tables.exec = Jvm.exec) (hb : c.code = cX13_init) (hts : ∀ w ∈ k0 :: wP, w.before args s = true) (hown : s.vm.findClass RX13 = some m.cls) (hin2 : meth.name = "<init>") (hao : (Cond.arrayOver (.array .int)).before args s = true) (hc : cl[ci]? = some (RX13, TX13, 180)) (hl : lv_has ls 1 [(0, .ref h0)]) (hK : va_K D cl tys s) (hJ : kJ 180 (mL qh q2 q7 q8 q9 q10) fs) (hP : va_P D cl ((h0, .inr (ci, fs)) :: wr) H) (hD : va_D A ((h0, .inr (ci, fs)) :: wr)) (hS : va_S A H0 H locs)
    (hrc : cells + 18 ≤ R.cells) (hrs : slots + 133500 ≤ R.slots)
    (kk : ∀ (H1 : Heap) (locs1 : List Loc) (fs1 : List Value), kJ 180 (mL qh q2 q7 q8 q9 q10) fs1 → va_P D cl ((h0, .inr (ci, fs1)) :: wr) H1 → va_D A ((h0, .inr (ci, fs1)) :: wr) → va_S A H0 H1 locs1 → W p l e R s m args below meth c H1 locs1 (cells + 18) (slots + 133500) Q (F0 m 774 ls [])) : W p l e R s m args below meth c H locs cells slots Q (F0 m 612 ls []) := by
  refine lv_aload_n hx hb dX13_init_612 rfl (lv_at hl 0 rfl) ?_
  refine lv_sipush (v := 6100) hx hb dX13_init_613 (by decide) ?_
  refine k_arrF hts iX13 tyX13 tyX13_ok nmX13 hx hb hown hin2 hK hc hJ hP hD hS (hts _ (bP 7 rfl)) 46 (by decide) (by decide) rfl (hts _ (bP 34 rfl)) rfl rfl (ty := .int) (by decide +kernel) (N' := 6100) (by decide) (by decide) (by decide) (by omega) (by omega) dX13_init_616 dX13_init_618 (fun H locs fs hJ hP hD hS => ?_)
  refine lv_aload_n hx hb dX13_init_621 rfl (lv_at hl 0 rfl) ?_
  refine lv_sipush (v := 6100) hx hb dX13_init_622 (by decide) ?_
  refine k_arrF hts iX13 tyX13 tyX13_ok nmX13 hx hb hown hin2 hK hc hJ hP hD hS (hts _ (bP 7 rfl)) 47 (by decide) (by decide) rfl (hts _ (bP 35 rfl)) rfl rfl (ty := .int) (by decide +kernel) (N' := 6100) (by decide) (by decide) (by decide) (by omega) (by omega) dX13_init_625 dX13_init_627 (fun H locs fs hJ hP hD hS => ?_)
  refine lv_aload_n hx hb dX13_init_630 rfl (lv_at hl 0 rfl) ?_
  refine lv_sipush (v := 6100) hx hb dX13_init_631 (by decide) ?_
  refine k_arrF hts iX13 tyX13 tyX13_ok nmX13 hx hb hown hin2 hK hc hJ hP hD hS (hts _ (bP 7 rfl)) 48 (by decide) (by decide) rfl (hts _ (bP 36 rfl)) rfl rfl (ty := .int) (by decide +kernel) (N' := 6100) (by decide) (by decide) (by decide) (by omega) (by omega) dX13_init_634 dX13_init_636 (fun H locs fs hJ hP hD hS => ?_)
  refine lv_aload_n hx hb dX13_init_639 rfl (lv_at hl 0 rfl) ?_
  refine lv_sipush (v := 6100) hx hb dX13_init_640 (by decide) ?_
  refine k_arrF hts iX13 tyX13 tyX13_ok nmX13 hx hb hown hin2 hK hc hJ hP hD hS (hts _ (bP 7 rfl)) 49 (by decide) (by decide) rfl (hts _ (bP 37 rfl)) rfl rfl (ty := .int) (by decide +kernel) (N' := 6100) (by decide) (by decide) (by decide) (by omega) (by omega) dX13_init_643 dX13_init_645 (fun H locs fs hJ hP hD hS => ?_)
  refine lv_aload_n hx hb dX13_init_648 rfl (lv_at hl 0 rfl) ?_
  refine lv_sipush (v := 6100) hx hb dX13_init_649 (by decide) ?_
  refine k_arrF hts iX13 tyX13 tyX13_ok nmX13 hx hb hown hin2 hK hc hJ hP hD hS (hts _ (bP 7 rfl)) 50 (by decide) (by decide) rfl (hts _ (bP 38 rfl)) rfl rfl (ty := .int) (by decide +kernel) (N' := 6100) (by decide) (by decide) (by decide) (by omega) (by omega) dX13_init_652 dX13_init_654 (fun H locs fs hJ hP hD hS => ?_)
  refine lv_aload_n hx hb dX13_init_657 rfl (lv_at hl 0 rfl) ?_
  refine lv_sipush (v := 6100) hx hb dX13_init_658 (by decide) ?_
  refine k_arrF hts iX13 tyX13 tyX13_ok nmX13 hx hb hown hin2 hK hc hJ hP hD hS (hts _ (bP 7 rfl)) 51 (by decide) (by decide) rfl (hts _ (bP 39 rfl)) rfl rfl (ty := .int) (by decide +kernel) (N' := 6100) (by decide) (by decide) (by decide) (by omega) (by omega) dX13_init_661 dX13_init_663 (fun H locs fs hJ hP hD hS => ?_)
  refine lv_aload_n hx hb dX13_init_666 rfl (lv_at hl 0 rfl) ?_
  refine lv_sipush (v := 6100) hx hb dX13_init_667 (by decide) ?_
  refine k_arrF hts iX13 tyX13 tyX13_ok nmX13 hx hb hown hin2 hK hc hJ hP hD hS (hts _ (bP 7 rfl)) 52 (by decide) (by decide) rfl (hts _ (bP 40 rfl)) rfl rfl (ty := .int) (by decide +kernel) (N' := 6100) (by decide) (by decide) (by decide) (by omega) (by omega) dX13_init_670 dX13_init_672 (fun H locs fs hJ hP hD hS => ?_)
  refine lv_aload_n hx hb dX13_init_675 rfl (lv_at hl 0 rfl) ?_
  refine lv_sipush (v := 6100) hx hb dX13_init_676 (by decide) ?_
  refine k_arrF hts iX13 tyX13 tyX13_ok nmX13 hx hb hown hin2 hK hc hJ hP hD hS (hts _ (bP 41 rfl)) 53 (by decide) (by decide) rfl (hts _ (bP 42 rfl)) rfl rfl (ty := .boolean) (by decide +kernel) (N' := 6100) (by decide) (by decide) (by decide) (by omega) (by omega) dX13_init_679 dX13_init_681 (fun H locs fs hJ hP hD hS => ?_)
  refine lv_aload_n hx hb dX13_init_684 rfl (lv_at hl 0 rfl) ?_
  refine lv_sipush (v := 6100) hx hb dX13_init_685 (by decide) ?_
  refine k_arrF hts iX13 tyX13 tyX13_ok nmX13 hx hb hown hin2 hK hc hJ hP hD hS (hts _ (bP 7 rfl)) 54 (by decide) (by decide) rfl (hts _ (bP 43 rfl)) rfl rfl (ty := .int) (by decide +kernel) (N' := 6100) (by decide) (by decide) (by decide) (by omega) (by omega) dX13_init_688 dX13_init_690 (fun H locs fs hJ hP hD hS => ?_)
  refine lv_aload_n hx hb dX13_init_693 rfl (lv_at hl 0 rfl) ?_
  refine lv_sipush (v := 6100) hx hb dX13_init_694 (by decide) ?_
  refine k_arrF hts iX13 tyX13 tyX13_ok nmX13 hx hb hown hin2 hK hc hJ hP hD hS (hts _ (bP 7 rfl)) 55 (by decide) (by decide) rfl (hts _ (bP 44 rfl)) rfl rfl (ty := .int) (by decide +kernel) (N' := 6100) (by decide) (by decide) (by decide) (by omega) (by omega) dX13_init_697 dX13_init_699 (fun H locs fs hJ hP hD hS => ?_)
  refine lv_aload_n hx hb dX13_init_702 rfl (lv_at hl 0 rfl) ?_
  refine lv_sipush (v := 6100) hx hb dX13_init_703 (by decide) ?_
  refine k_arrF hts iX13 tyX13 tyX13_ok nmX13 hx hb hown hin2 hK hc hJ hP hD hS (hts _ (bP 7 rfl)) 57 (by decide) (by decide) rfl (hts _ (bP 45 rfl)) rfl rfl (ty := .int) (by decide +kernel) (N' := 6100) (by decide) (by decide) (by decide) (by omega) (by omega) dX13_init_706 dX13_init_708 (fun H locs fs hJ hP hD hS => ?_)
  refine lv_aload_n hx hb dX13_init_711 rfl (lv_at hl 0 rfl) ?_
  refine lv_sipush (v := 6100) hx hb dX13_init_712 (by decide) ?_
  refine k_arrF hts iX13 tyX13 tyX13_ok nmX13 hx hb hown hin2 hK hc hJ hP hD hS (hts _ (bP 7 rfl)) 60 (by decide) (by decide) rfl (hts _ (bP 46 rfl)) rfl rfl (ty := .int) (by decide +kernel) (N' := 6100) (by decide) (by decide) (by decide) (by omega) (by omega) dX13_init_715 dX13_init_717 (fun H locs fs hJ hP hD hS => ?_)
  refine lv_aload_n hx hb dX13_init_720 rfl (lv_at hl 0 rfl) ?_
  refine lv_sipush (v := 6100) hx hb dX13_init_721 (by decide) ?_
  refine k_arrF hts iX13 tyX13 tyX13_ok nmX13 hx hb hown hin2 hK hc hJ hP hD hS (hts _ (bP 7 rfl)) 61 (by decide) (by decide) rfl (hts _ (bP 47 rfl)) rfl rfl (ty := .int) (by decide +kernel) (N' := 6100) (by decide) (by decide) (by decide) (by omega) (by omega) dX13_init_724 dX13_init_726 (fun H locs fs hJ hP hD hS => ?_)
  refine lv_aload_n hx hb dX13_init_729 rfl (lv_at hl 0 rfl) ?_
  refine lv_sipush (v := 14000) hx hb dX13_init_730 (by decide) ?_
  refine k_arrF hts iX13 tyX13 tyX13_ok nmX13 hx hb hown hin2 hK hc hJ hP hD hS (hts _ (bP 7 rfl)) 63 (by decide) (by decide) rfl (hts _ (bP 48 rfl)) rfl rfl (ty := .int) (by decide +kernel) (N' := 14000) (by decide) (by decide) (by decide) (by omega) (by omega) dX13_init_733 dX13_init_735 (fun H locs fs hJ hP hD hS => ?_)
  refine lv_aload_n hx hb dX13_init_738 rfl (lv_at hl 0 rfl) ?_
  refine lv_sipush (v := 14000) hx hb dX13_init_739 (by decide) ?_
  refine k_arrF hts iX13 tyX13 tyX13_ok nmX13 hx hb hown hin2 hK hc hJ hP hD hS (hts _ (bP 7 rfl)) 66 (by decide) (by decide) rfl (hts _ (bP 49 rfl)) rfl rfl (ty := .int) (by decide +kernel) (N' := 14000) (by decide) (by decide) (by decide) (by omega) (by omega) dX13_init_742 dX13_init_744 (fun H locs fs hJ hP hD hS => ?_)
  refine lv_aload_n hx hb dX13_init_747 rfl (lv_at hl 0 rfl) ?_
  refine lv_sipush (v := 14000) hx hb dX13_init_748 (by decide) ?_
  refine k_arrF hts iX13 tyX13 tyX13_ok nmX13 hx hb hown hin2 hK hc hJ hP hD hS (hts _ (bP 7 rfl)) 67 (by decide) (by decide) rfl (hts _ (bP 50 rfl)) rfl rfl (ty := .int) (by decide +kernel) (N' := 14000) (by decide) (by decide) (by decide) (by omega) (by omega) dX13_init_751 dX13_init_753 (fun H locs fs hJ hP hD hS => ?_)
  refine lv_aload_n hx hb dX13_init_756 rfl (lv_at hl 0 rfl) ?_
  refine lv_sipush (v := 6100) hx hb dX13_init_757 (by decide) ?_
  refine k_arrF hts iX13 tyX13 tyX13_ok nmX13 hx hb hown hin2 hK hc hJ hP hD hS (hts _ (bP 41 rfl)) 68 (by decide) (by decide) rfl (hts _ (bP 51 rfl)) rfl rfl (ty := .boolean) (by decide +kernel) (N' := 6100) (by decide) (by decide) (by decide) (by omega) (by omega) dX13_init_760 dX13_init_762 (fun H locs fs hJ hP hD hS => ?_)
  refine lv_aload_n hx hb dX13_init_765 rfl (lv_at hl 0 rfl) ?_
  refine lv_sipush (v := 6100) hx hb dX13_init_766 (by decide) ?_
  refine k_arrF hts iX13 tyX13 tyX13_ok nmX13 hx hb hown hin2 hK hc hJ hP hD hS (hts _ (bP 7 rfl)) 69 (by decide) (by decide) rfl (hts _ (bP 52 rfl)) rfl rfl (ty := .int) (by decide +kernel) (N' := 6100) (by decide) (by decide) (by decide) (by omega) (by omega) dX13_init_769 dX13_init_771 (fun H locs fs hJ hP hD hS => ?_)
  refine W.widen (k := cells + 18) (n := slots + 133500) (by omega) (by omega) ?_
  exact kk H locs fs hJ hP hD hS
set_option maxHeartbeats 4000000 in
set_option maxRecDepth 100000 in
theorem mi_3 {p : Program} {l : Launch} {e : Env} {R : Room} {s : State} {m : MethodId} {args : Array Value} {below : List Frame} {meth : Method} {c : Code} {H : Heap} {locs : List Loc} {cells slots : Nat} {Q : State → Prop} {ls : Array Slot} {D : va_G} {A : Nat → Prop} {tys : List (ClassId × FieldType)} {H0 : Heap} {h0 : Nat} {fs : List Value} {wr : va_W} {qh q2 q7 q8 q9 q10 : Nat} {k0 : Cond} {cl : List vw_C} {ci : Nat}
    (hx : p.tables.exec = Jvm.exec) (hb : c.code = cX13_init) (hts : ∀ w ∈ k0 :: wP, w.before args s = true) (hown : s.vm.findClass RX13 = some m.cls) (hin2 : meth.name = "<init>") (hao : (Cond.arrayOver (.array .int)).before args s = true) (hc : cl[ci]? = some (RX13, TX13, 180)) (hl : lv_has ls 1 [(0, .ref h0)]) (hK : va_K D cl tys s) (hJ : kJ 180 (mL qh q2 q7 q8 q9 q10) fs) (hP : va_P D cl ((h0, .inr (ci, fs)) :: wr) H) (hD : va_D A ((h0, .inr (ci, fs)) :: wr)) (hS : va_S A H0 H locs)
    (hrc : cells + 18 ≤ R.cells) (hrs : slots + 193952 ≤ R.slots)
    (kk : ∀ (H1 : Heap) (locs1 : List Loc) (fs1 : List Value), kJ 180 (mL qh q2 q7 q8 q9 q10) fs1 → va_P D cl ((h0, .inr (ci, fs1)) :: wr) H1 → va_D A ((h0, .inr (ci, fs1)) :: wr) → va_S A H0 H1 locs1 → W p l e R s m args below meth c H1 locs1 (cells + 18) (slots + 193952) Q (F0 m 930 ls [])) : W p l e R s m args below meth c H locs cells slots Q (F0 m 774 ls []) := by
  refine lv_aload_n hx hb dX13_init_774 rfl (lv_at hl 0 rfl) ?_
  refine lv_sipush (v := 6100) hx hb dX13_init_775 (by decide) ?_
  refine k_arrF hts iX13 tyX13 tyX13_ok nmX13 hx hb hown hin2 hK hc hJ hP hD hS (hts _ (bP 7 rfl)) 70 (by decide) (by decide) rfl (hts _ (bP 53 rfl)) rfl rfl (ty := .int) (by decide +kernel) (N' := 6100) (by decide) (by decide) (by decide) (by omega) (by omega) dX13_init_778 dX13_init_780 (fun H locs fs hJ hP hD hS => ?_)
  refine lv_aload_n hx hb dX13_init_783 rfl (lv_at hl 0 rfl) ?_
  refine lv_sipush (v := 6100) hx hb dX13_init_784 (by decide) ?_
  refine k_arrF hts iX13 tyX13 tyX13_ok nmX13 hx hb hown hin2 hK hc hJ hP hD hS (hts _ (bP 41 rfl)) 71 (by decide) (by decide) rfl (hts _ (bP 54 rfl)) rfl rfl (ty := .boolean) (by decide +kernel) (N' := 6100) (by decide) (by decide) (by decide) (by omega) (by omega) dX13_init_787 dX13_init_789 (fun H locs fs hJ hP hD hS => ?_)
  refine lv_aload_n hx hb dX13_init_792 rfl (lv_at hl 0 rfl) ?_
  refine lv_sipush (v := 14000) hx hb dX13_init_793 (by decide) ?_
  refine k_arrF hts iX13 tyX13 tyX13_ok nmX13 hx hb hown hin2 hK hc hJ hP hD hS (hts _ (bP 55 rfl)) 76 (by decide) (by decide) rfl (hts _ (bP 56 rfl)) rfl rfl (ty := .long) (by decide +kernel) (N' := 14000) (by decide) (by decide) (by decide) (by omega) (by omega) dX13_init_796 dX13_init_798 (fun H locs fs hJ hP hD hS => ?_)
  refine lv_aload_n hx hb dX13_init_801 rfl (lv_at hl 0 rfl) ?_
  refine lv_sipush (v := 14000) hx hb dX13_init_802 (by decide) ?_
  refine k_arrF hts iX13 tyX13 tyX13_ok nmX13 hx hb hown hin2 hK hc hJ hP hD hS (hts _ (bP 7 rfl)) 77 (by decide) (by decide) rfl (hts _ (bP 57 rfl)) rfl rfl (ty := .int) (by decide +kernel) (N' := 14000) (by decide) (by decide) (by decide) (by omega) (by omega) dX13_init_805 dX13_init_807 (fun H locs fs hJ hP hD hS => ?_)
  refine lv_aload_n hx hb dX13_init_810 rfl (lv_at hl 0 rfl) ?_
  refine lv_sipush (v := 14000) hx hb dX13_init_811 (by decide) ?_
  refine k_arrF hts iX13 tyX13 tyX13_ok nmX13 hx hb hown hin2 hK hc hJ hP hD hS (hts _ (bP 7 rfl)) 78 (by decide) (by decide) rfl (hts _ (bP 58 rfl)) rfl rfl (ty := .int) (by decide +kernel) (N' := 14000) (by decide) (by decide) (by decide) (by omega) (by omega) dX13_init_814 dX13_init_816 (fun H locs fs hJ hP hD hS => ?_)
  refine lv_aload_n hx hb dX13_init_819 rfl (lv_at hl 0 rfl) ?_
  refine lv_ldcw hx hb hown (hts _ (bP 59 rfl)) dX13_init_820 ?_
  refine k_arrP hts iX13 tyX13 tyX13_ok nmX13 hx hb hown hK hc hJ hP hD hS (hts _ (bP 7 rfl)) 81 (by decide) (by decide) rfl (hts _ (bP 60 rfl)) rfl rfl (ty := .int) (by decide +kernel) (N' := 32768) (by decide) (by decide) (by decide) (by omega) (by omega) dX13_init_823 dX13_init_825 (fun H locs fs hJ hP hD hS => ?_)
  refine lv_aload_n hx hb dX13_init_828 rfl (lv_at hl 0 rfl) ?_
  refine lv_ldcw hx hb hown (hts _ (bP 59 rfl)) dX13_init_829 ?_
  refine k_arrP hts iX13 tyX13 tyX13_ok nmX13 hx hb hown hK hc hJ hP hD hS (hts _ (bP 7 rfl)) 82 (by decide) (by decide) rfl (hts _ (bP 61 rfl)) rfl rfl (ty := .int) (by decide +kernel) (N' := 32768) (by decide) (by decide) (by decide) (by omega) (by omega) dX13_init_832 dX13_init_834 (fun H locs fs hJ hP hD hS => ?_)
  refine lv_aload_n hx hb dX13_init_837 rfl (lv_at hl 0 rfl) ?_
  refine lv_sipush (v := 14000) hx hb dX13_init_838 (by decide) ?_
  refine k_arrF hts iX13 tyX13 tyX13_ok nmX13 hx hb hown hin2 hK hc hJ hP hD hS (hts _ (bP 7 rfl)) 83 (by decide) (by decide) rfl (hts _ (bP 62 rfl)) rfl rfl (ty := .int) (by decide +kernel) (N' := 14000) (by decide) (by decide) (by decide) (by omega) (by omega) dX13_init_841 dX13_init_843 (fun H locs fs hJ hP hD hS => ?_)
  refine lv_aload_n hx hb dX13_init_846 rfl (lv_at hl 0 rfl) ?_
  refine lv_sipush (v := 14000) hx hb dX13_init_847 (by decide) ?_
  refine k_arrF hts iX13 tyX13 tyX13_ok nmX13 hx hb hown hin2 hK hc hJ hP hD hS (hts _ (bP 7 rfl)) 84 (by decide) (by decide) rfl (hts _ (bP 63 rfl)) rfl rfl (ty := .int) (by decide +kernel) (N' := 14000) (by decide) (by decide) (by decide) (by omega) (by omega) dX13_init_850 dX13_init_852 (fun H locs fs hJ hP hD hS => ?_)
  refine lv_aload_n hx hb dX13_init_855 rfl (lv_at hl 0 rfl) ?_
  refine lv_sipush (v := 14000) hx hb dX13_init_856 (by decide) ?_
  refine k_arrF hts iX13 tyX13 tyX13_ok nmX13 hx hb hown hin2 hK hc hJ hP hD hS (hts _ (bP 41 rfl)) 85 (by decide) (by decide) rfl (hts _ (bP 64 rfl)) rfl rfl (ty := .boolean) (by decide +kernel) (N' := 14000) (by decide) (by decide) (by decide) (by omega) (by omega) dX13_init_859 dX13_init_861 (fun H locs fs hJ hP hD hS => ?_)
  refine lv_aload_n hx hb dX13_init_864 rfl (lv_at hl 0 rfl) ?_
  refine lv_iconst (v := 4) hx hb dX13_init_865 (by decide) ?_
  refine k_arrF hts iX13 tyX13 tyX13_ok nmX13 hx hb hown hin2 hK hc hJ hP hD hS (hts _ (bP 55 rfl)) 92 (by decide) (by decide) rfl (hts _ (bP 65 rfl)) rfl rfl (ty := .long) (by decide +kernel) (N' := 4) (by decide) (by decide) (by decide) (by omega) (by omega) dX13_init_866 dX13_init_868 (fun H locs fs hJ hP hD hS => ?_)
  refine lv_aload_n hx hb dX13_init_871 rfl (lv_at hl 0 rfl) ?_
  refine lv_bipush (v := 64) hx hb dX13_init_872 (by decide) ?_
  refine k_arrF hts iX13 tyX13 tyX13_ok nmX13 hx hb hown hin2 hK hc hJ hP hD hS (hts _ (bP 7 rfl)) 94 (by decide) (by decide) rfl (hts _ (bP 66 rfl)) rfl rfl (ty := .int) (by decide +kernel) (N' := 64) (by decide) (by decide) (by decide) (by omega) (by omega) dX13_init_874 dX13_init_876 (fun H locs fs hJ hP hD hS => ?_)
  refine lv_aload_n hx hb dX13_init_879 rfl (lv_at hl 0 rfl) ?_
  refine lv_sipush (v := 6100) hx hb dX13_init_880 (by decide) ?_
  refine k_arrF hts iX13 tyX13 tyX13_ok nmX13 hx hb hown hin2 hK hc hJ hP hD hS (hts _ (bP 41 rfl)) 95 (by decide) (by decide) rfl (hts _ (bP 67 rfl)) rfl rfl (ty := .boolean) (by decide +kernel) (N' := 6100) (by decide) (by decide) (by decide) (by omega) (by omega) dX13_init_883 dX13_init_885 (fun H locs fs hJ hP hD hS => ?_)
  refine lv_aload_n hx hb dX13_init_888 rfl (lv_at hl 0 rfl) ?_
  refine lv_sipush (v := 14000) hx hb dX13_init_889 (by decide) ?_
  refine k_arrF hts iX13 tyX13 tyX13_ok nmX13 hx hb hown hin2 hK hc hJ hP hD hS (hts _ (bP 7 rfl)) 96 (by decide) (by decide) rfl (hts _ (bP 68 rfl)) rfl rfl (ty := .int) (by decide +kernel) (N' := 14000) (by decide) (by decide) (by decide) (by omega) (by omega) dX13_init_892 dX13_init_894 (fun H locs fs hJ hP hD hS => ?_)
  refine lv_aload_n hx hb dX13_init_897 rfl (lv_at hl 0 rfl) ?_
  refine lv_sipush (v := 12000) hx hb dX13_init_898 (by decide) ?_
  refine k_arrF hts iX13 tyX13 tyX13_ok nmX13 hx hb hown hin2 hK hc hJ hP hD hS (hts _ (bP 55 rfl)) 97 (by decide) (by decide) rfl (hts _ (bP 69 rfl)) rfl rfl (ty := .long) (by decide +kernel) (N' := 12000) (by decide) (by decide) (by decide) (by omega) (by omega) dX13_init_901 dX13_init_903 (fun H locs fs hJ hP hD hS => ?_)
  refine lv_aload_n hx hb dX13_init_906 rfl (lv_at hl 0 rfl) ?_
  refine lv_bipush (v := 8) hx hb dX13_init_907 (by decide) ?_
  refine k_arrF hts iX13 tyX13 tyX13_ok nmX13 hx hb hown hin2 hK hc hJ hP hD hS (hts _ (bP 7 rfl)) 101 (by decide) (by decide) rfl (hts _ (bP 70 rfl)) rfl rfl (ty := .int) (by decide +kernel) (N' := 8) (by decide) (by decide) (by decide) (by omega) (by omega) dX13_init_909 dX13_init_911 (fun H locs fs hJ hP hD hS => ?_)
  refine lv_aload_n hx hb dX13_init_914 rfl (lv_at hl 0 rfl) ?_
  refine lv_bipush (v := 8) hx hb dX13_init_915 (by decide) ?_
  refine k_arrF hts iX13 tyX13 tyX13_ok nmX13 hx hb hown hin2 hK hc hJ hP hD hS (hts _ (bP 41 rfl)) 102 (by decide) (by decide) rfl (hts _ (bP 71 rfl)) rfl rfl (ty := .boolean) (by decide +kernel) (N' := 8) (by decide) (by decide) (by decide) (by omega) (by omega) dX13_init_917 dX13_init_919 (fun H locs fs hJ hP hD hS => ?_)
  refine lv_aload_n hx hb dX13_init_922 rfl (lv_at hl 0 rfl) ?_
  refine lv_bipush (v := 32) hx hb dX13_init_923 (by decide) ?_
  refine k_arrF hts iX13 tyX13 tyX13_ok nmX13 hx hb hown hin2 hK hc hJ hP hD hS (hts _ (bP 55 rfl)) 103 (by decide) (by decide) rfl (hts _ (bP 72 rfl)) rfl rfl (ty := .long) (by decide +kernel) (N' := 32) (by decide) (by decide) (by decide) (by omega) (by omega) dX13_init_925 dX13_init_927 (fun H locs fs hJ hP hD hS => ?_)
  refine W.widen (k := cells + 18) (n := slots + 193952) (by omega) (by omega) ?_
  exact kk H locs fs hJ hP hD hS
set_option maxHeartbeats 4000000 in
set_option maxRecDepth 100000 in
theorem mi_4 {p : Program} {l : Launch} {e : Env} {R : Room} {s : State} {m : MethodId} {args : Array Value} {below : List Frame} {meth : Method} {c : Code} {H : Heap} {locs : List Loc} {cells slots : Nat} {Q : State → Prop} {ls : Array Slot} {D : va_G} {A : Nat → Prop} {tys : List (ClassId × FieldType)} {H0 : Heap} {h0 : Nat} {fs : List Value} {wr : va_W} {qh q2 q7 q8 q9 q10 : Nat} {k0 : Cond} {cl : List vw_C} {ci : Nat}
    (hx : p.tables.exec = Jvm.exec) (hb : c.code = cX13_init) (hts : ∀ w ∈ k0 :: wP, w.before args s = true) (hown : s.vm.findClass RX13 = some m.cls) (hin2 : meth.name = "<init>") (hao : (Cond.arrayOver (.array .int)).before args s = true) (hc : cl[ci]? = some (RX13, TX13, 180)) (hl : lv_has ls 1 [(0, .ref h0)]) (hK : va_K D cl tys s) (hJ : kJ 180 (mL qh q2 q7 q8 q9 q10) fs) (hP : va_P D cl ((h0, .inr (ci, fs)) :: wr) H) (hD : va_D A ((h0, .inr (ci, fs)) :: wr)) (hS : va_S A H0 H locs)
    (hrc : cells + 18 ≤ R.cells) (hrs : slots + 273544 ≤ R.slots)
    (kk : ∀ (H1 : Heap) (locs1 : List Loc) (fs1 : List Value), kJ 180 (mL qh q2 q7 q8 q9 q10) fs1 → va_P D cl ((h0, .inr (ci, fs1)) :: wr) H1 → va_D A ((h0, .inr (ci, fs1)) :: wr) → va_S A H0 H1 locs1 → W p l e R s m args below meth c H1 locs1 (cells + 18) (slots + 273544) Q (F0 m 1090 ls [])) : W p l e R s m args below meth c H locs cells slots Q (F0 m 930 ls []) := by
  refine lv_aload_n hx hb dX13_init_930 rfl (lv_at hl 0 rfl) ?_
  refine lv_sipush (v := 1600) hx hb dX13_init_931 (by decide) ?_
  refine k_arrF hts iX13 tyX13 tyX13_ok nmX13 hx hb hown hin2 hK hc hJ hP hD hS (hts _ (bP 7 rfl)) 105 (by decide) (by decide) rfl (hts _ (bP 73 rfl)) rfl rfl (ty := .int) (by decide +kernel) (N' := 1600) (by decide) (by decide) (by decide) (by omega) (by omega) dX13_init_934 dX13_init_936 (fun H locs fs hJ hP hD hS => ?_)
  refine lv_aload_n hx hb dX13_init_939 rfl (lv_at hl 0 rfl) ?_
  refine lv_sipush (v := 6400) hx hb dX13_init_940 (by decide) ?_
  refine k_arrF hts iX13 tyX13 tyX13_ok nmX13 hx hb hown hin2 hK hc hJ hP hD hS (hts _ (bP 41 rfl)) 106 (by decide) (by decide) rfl (hts _ (bP 74 rfl)) rfl rfl (ty := .boolean) (by decide +kernel) (N' := 6400) (by decide) (by decide) (by decide) (by omega) (by omega) dX13_init_943 dX13_init_945 (fun H locs fs hJ hP hD hS => ?_)
  refine lv_aload_n hx hb dX13_init_948 rfl (lv_at hl 0 rfl) ?_
  refine lv_sipush (v := 25600) hx hb dX13_init_949 (by decide) ?_
  refine k_arrF hts iX13 tyX13 tyX13_ok nmX13 hx hb hown hin2 hK hc hJ hP hD hS (hts _ (bP 55 rfl)) 107 (by decide) (by decide) rfl (hts _ (bP 75 rfl)) rfl rfl (ty := .long) (by decide +kernel) (N' := 25600) (by decide) (by decide) (by decide) (by omega) (by omega) dX13_init_952 dX13_init_954 (fun H locs fs hJ hP hD hS => ?_)
  refine lv_aload_n hx hb dX13_init_957 rfl (lv_at hl 0 rfl) ?_
  refine lv_sipush (v := 6400) hx hb dX13_init_958 (by decide) ?_
  refine k_arrF hts iX13 tyX13 tyX13_ok nmX13 hx hb hown hin2 hK hc hJ hP hD hS (hts _ (bP 41 rfl)) 108 (by decide) (by decide) rfl (hts _ (bP 76 rfl)) rfl rfl (ty := .boolean) (by decide +kernel) (N' := 6400) (by decide) (by decide) (by decide) (by omega) (by omega) dX13_init_961 dX13_init_963 (fun H locs fs hJ hP hD hS => ?_)
  refine lv_aload_n hx hb dX13_init_966 rfl (lv_at hl 0 rfl) ?_
  refine lv_sipush (v := 25600) hx hb dX13_init_967 (by decide) ?_
  refine k_arrF hts iX13 tyX13 tyX13_ok nmX13 hx hb hown hin2 hK hc hJ hP hD hS (hts _ (bP 55 rfl)) 109 (by decide) (by decide) rfl (hts _ (bP 77 rfl)) rfl rfl (ty := .long) (by decide +kernel) (N' := 25600) (by decide) (by decide) (by decide) (by omega) (by omega) dX13_init_970 dX13_init_972 (fun H locs fs hJ hP hD hS => ?_)
  refine lv_aload_n hx hb dX13_init_975 rfl (lv_at hl 0 rfl) ?_
  refine lv_ldcw hx hb hown (hts _ (bP 78 rfl)) dX13_init_976 ?_
  refine k_arrP hts iX13 tyX13 tyX13_ok nmX13 hx hb hown hK hc hJ hP hD hS (hts _ (bP 7 rfl)) 111 (by decide) (by decide) rfl (hts _ (bP 79 rfl)) rfl rfl (ty := .int) (by decide +kernel) (N' := 65536) (by decide) (by decide) (by decide) (by omega) (by omega) dX13_init_979 dX13_init_981 (fun H locs fs hJ hP hD hS => ?_)
  refine lv_aload_n hx hb dX13_init_984 rfl (lv_at hl 0 rfl) ?_
  refine lv_ldcw hx hb hown (hts _ (bP 78 rfl)) dX13_init_985 ?_
  refine k_arrP hts iX13 tyX13 tyX13_ok nmX13 hx hb hown hK hc hJ hP hD hS (hts _ (bP 7 rfl)) 112 (by decide) (by decide) rfl (hts _ (bP 80 rfl)) rfl rfl (ty := .int) (by decide +kernel) (N' := 65536) (by decide) (by decide) (by decide) (by omega) (by omega) dX13_init_988 dX13_init_990 (fun H locs fs hJ hP hD hS => ?_)
  refine lv_aload_n hx hb dX13_init_993 rfl (lv_at hl 0 rfl) ?_
  refine lv_ldcw hx hb hown (hts _ (bP 78 rfl)) dX13_init_994 ?_
  refine k_arrP hts iX13 tyX13 tyX13_ok nmX13 hx hb hown hK hc hJ hP hD hS (hts _ (bP 7 rfl)) 113 (by decide) (by decide) rfl (hts _ (bP 81 rfl)) rfl rfl (ty := .int) (by decide +kernel) (N' := 65536) (by decide) (by decide) (by decide) (by omega) (by omega) dX13_init_997 dX13_init_999 (fun H locs fs hJ hP hD hS => ?_)
  refine lv_aload_n hx hb dX13_init_1002 rfl (lv_at hl 0 rfl) ?_
  refine lv_sipush (v := 2048) hx hb dX13_init_1003 (by decide) ?_
  refine k_arrP hts iX13 tyX13 tyX13_ok nmX13 hx hb hown hK hc hJ hP hD hS (hts _ (bP 7 rfl)) 116 (by decide) (by decide) rfl (hts _ (bP 82 rfl)) rfl rfl (ty := .int) (by decide +kernel) (N' := 2048) (by decide) (by decide) (by decide) (by omega) (by omega) dX13_init_1006 dX13_init_1008 (fun H locs fs hJ hP hD hS => ?_)
  refine lv_aload_n hx hb dX13_init_1011 rfl (lv_at hl 0 rfl) ?_
  refine lv_sipush (v := 2048) hx hb dX13_init_1012 (by decide) ?_
  refine k_arrP hts iX13 tyX13 tyX13_ok nmX13 hx hb hown hK hc hJ hP hD hS (hts _ (bP 7 rfl)) 117 (by decide) (by decide) rfl (hts _ (bP 83 rfl)) rfl rfl (ty := .int) (by decide +kernel) (N' := 2048) (by decide) (by decide) (by decide) (by omega) (by omega) dX13_init_1015 dX13_init_1017 (fun H locs fs hJ hP hD hS => ?_)
  refine lv_aload_n hx hb dX13_init_1020 rfl (lv_at hl 0 rfl) ?_
  refine lv_bipush (v := 32) hx hb dX13_init_1021 (by decide) ?_
  refine k_arrQ hts iX13 tyX13 tyX13_ok nmX13 hx hb hown hin2 hK hc hJ hP hD hS (hts _ (bP 84 rfl)) hao 118 (by decide) (by decide) rfl (hts _ (bP 85 rfl)) rfl rfl (ty := .array .int) (by decide +kernel) (N' := 32) (by decide) (by decide) (by decide) (by omega) (by omega) dX13_init_1023 dX13_init_1026 (fun H locs fs hJ hP hD hS => ?_)
  refine lv_aload_n hx hb dX13_init_1029 rfl (lv_at hl 0 rfl) ?_
  refine lv_sipush (v := 2048) hx hb dX13_init_1030 (by decide) ?_
  refine k_arrP hts iX13 tyX13 tyX13_ok nmX13 hx hb hown hK hc hJ hP hD hS (hts _ (bP 7 rfl)) 121 (by decide) (by decide) rfl (hts _ (bP 86 rfl)) rfl rfl (ty := .int) (by decide +kernel) (N' := 2048) (by decide) (by decide) (by decide) (by omega) (by omega) dX13_init_1033 dX13_init_1035 (fun H locs fs hJ hP hD hS => ?_)
  refine lv_aload_n hx hb dX13_init_1038 rfl (lv_at hl 0 rfl) ?_
  refine lv_sipush (v := 2048) hx hb dX13_init_1039 (by decide) ?_
  refine k_arrP hts iX13 tyX13 tyX13_ok nmX13 hx hb hown hK hc hJ hP hD hS (hts _ (bP 7 rfl)) 122 (by decide) (by decide) rfl (hts _ (bP 87 rfl)) rfl rfl (ty := .int) (by decide +kernel) (N' := 2048) (by decide) (by decide) (by decide) (by omega) (by omega) dX13_init_1042 dX13_init_1044 (fun H locs fs hJ hP hD hS => ?_)
  refine lv_aload_n hx hb dX13_init_1047 rfl (lv_at hl 0 rfl) ?_
  refine lv_sipush (v := 2000) hx hb dX13_init_1048 (by decide) ?_
  refine k_arrF hts iX13 tyX13 tyX13_ok nmX13 hx hb hown hin2 hK hc hJ hP hD hS (hts _ (bP 7 rfl)) 136 (by decide) (by decide) rfl (hts _ (bP 88 rfl)) rfl rfl (ty := .int) (by decide +kernel) (N' := 2000) (by decide) (by decide) (by decide) (by omega) (by omega) dX13_init_1051 dX13_init_1053 (fun H locs fs hJ hP hD hS => ?_)
  refine lv_aload_n hx hb dX13_init_1056 rfl (lv_at hl 0 rfl) ?_
  refine lv_sipush (v := 500) hx hb dX13_init_1057 (by decide) ?_
  refine k_arrF hts iX13 tyX13 tyX13_ok nmX13 hx hb hown hin2 hK hc hJ hP hD hS (hts _ (bP 7 rfl)) 138 (by decide) (by decide) rfl (hts _ (bP 89 rfl)) rfl rfl (ty := .int) (by decide +kernel) (N' := 500) (by decide) (by decide) (by decide) (by omega) (by omega) dX13_init_1060 dX13_init_1062 (fun H locs fs hJ hP hD hS => ?_)
  refine lv_aload_n hx hb dX13_init_1065 rfl (lv_at hl 0 rfl) ?_
  refine lv_sipush (v := 448) hx hb dX13_init_1066 (by decide) ?_
  refine k_arrF hts iX13 tyX13 tyX13_ok nmX13 hx hb hown hin2 hK hc hJ hP hD hS (hts _ (bP 7 rfl)) 142 (by decide) (by decide) rfl (hts _ (bP 90 rfl)) rfl rfl (ty := .int) (by decide +kernel) (N' := 448) (by decide) (by decide) (by decide) (by omega) (by omega) dX13_init_1069 dX13_init_1071 (fun H locs fs hJ hP hD hS => ?_)
  refine lv_aload_n hx hb dX13_init_1074 rfl (lv_at hl 0 rfl) ?_
  refine lv_bipush (v := 82) hx hb dX13_init_1075 (by decide) ?_
  refine k_arrF hts iX13 tyX13 tyX13_ok nmX13 hx hb hown hin2 hK hc hJ hP hD hS (hts _ (bP 7 rfl)) 144 (by decide) (by decide) rfl (hts _ (bP 91 rfl)) rfl rfl (ty := .int) (by decide +kernel) (N' := 82) (by decide) (by decide) (by decide) (by omega) (by omega) dX13_init_1077 dX13_init_1079 (fun H locs fs hJ hP hD hS => ?_)
  refine lv_aload_n hx hb dX13_init_1082 rfl (lv_at hl 0 rfl) ?_
  refine lv_bipush (v := 82) hx hb dX13_init_1083 (by decide) ?_
  refine k_arrF hts iX13 tyX13 tyX13_ok nmX13 hx hb hown hin2 hK hc hJ hP hD hS (hts _ (bP 41 rfl)) 145 (by decide) (by decide) rfl (hts _ (bP 92 rfl)) rfl rfl (ty := .boolean) (by decide +kernel) (N' := 82) (by decide) (by decide) (by decide) (by omega) (by omega) dX13_init_1085 dX13_init_1087 (fun H locs fs hJ hP hD hS => ?_)
  refine W.widen (k := cells + 18) (n := slots + 273544) (by omega) (by omega) ?_
  exact kk H locs fs hJ hP hD hS
set_option maxHeartbeats 4000000 in
set_option maxRecDepth 100000 in
theorem mi_5 {p : Program} {l : Launch} {e : Env} {R : Room} {s : State} {m : MethodId} {args : Array Value} {below : List Frame} {meth : Method} {c : Code} {H : Heap} {locs : List Loc} {cells slots : Nat} {Q : State → Prop} {ls : Array Slot} {D : va_G} {A : Nat → Prop} {tys : List (ClassId × FieldType)} {H0 : Heap} {h0 : Nat} {fs : List Value} {wr : va_W} {qh q2 q7 q8 q9 q10 : Nat} {k0 : Cond} {cl : List vw_C} {ci : Nat}
    (hx : p.tables.exec = Jvm.exec) (hb : c.code = cX13_init) (hts : ∀ w ∈ k0 :: wP, w.before args s = true) (hown : s.vm.findClass RX13 = some m.cls) (hin2 : meth.name = "<init>") (hao : (Cond.arrayOver (.array .int)).before args s = true) (hc : cl[ci]? = some (RX13, TX13, 180)) (hl : lv_has ls 1 [(0, .ref h0)]) (hK : va_K D cl tys s) (hJ : kJ 180 (mL qh q2 q7 q8 q9 q10) fs) (hP : va_P D cl ((h0, .inr (ci, fs)) :: wr) H) (hD : va_D A ((h0, .inr (ci, fs)) :: wr)) (hS : va_S A H0 H locs)
    (hrc : cells + 18 ≤ R.cells) (hrs : slots + 1806 ≤ R.slots)
    (kk : ∀ (H1 : Heap) (locs1 : List Loc) (fs1 : List Value), kJ 180 (mL qh q2 q7 q8 q9 q10) fs1 → va_P D cl ((h0, .inr (ci, fs1)) :: wr) H1 → va_D A ((h0, .inr (ci, fs1)) :: wr) → va_S A H0 H1 locs1 → W p l e R s m args below meth c H1 locs1 (cells + 18) (slots + 1806) Q (F0 m 1237 ls [])) : W p l e R s m args below meth c H locs cells slots Q (F0 m 1090 ls []) := by
  refine lv_aload_n hx hb dX13_init_1090 rfl (lv_at hl 0 rfl) ?_
  refine lv_bipush (v := 82) hx hb dX13_init_1091 (by decide) ?_
  refine k_arrF hts iX13 tyX13 tyX13_ok nmX13 hx hb hown hin2 hK hc hJ hP hD hS (hts _ (bP 7 rfl)) 146 (by decide) (by decide) rfl (hts _ (bP 93 rfl)) rfl rfl (ty := .int) (by decide +kernel) (N' := 82) (by decide) (by decide) (by decide) (by omega) (by omega) dX13_init_1093 dX13_init_1095 (fun H locs fs hJ hP hD hS => ?_)
  refine lv_aload_n hx hb dX13_init_1098 rfl (lv_at hl 0 rfl) ?_
  refine lv_bipush (v := 82) hx hb dX13_init_1099 (by decide) ?_
  refine k_arrF hts iX13 tyX13 tyX13_ok nmX13 hx hb hown hin2 hK hc hJ hP hD hS (hts _ (bP 7 rfl)) 147 (by decide) (by decide) rfl (hts _ (bP 94 rfl)) rfl rfl (ty := .int) (by decide +kernel) (N' := 82) (by decide) (by decide) (by decide) (by omega) (by omega) dX13_init_1101 dX13_init_1103 (fun H locs fs hJ hP hD hS => ?_)
  refine lv_aload_n hx hb dX13_init_1106 rfl (lv_at hl 0 rfl) ?_
  refine lv_bipush (v := 82) hx hb dX13_init_1107 (by decide) ?_
  refine k_arrF hts iX13 tyX13 tyX13_ok nmX13 hx hb hown hin2 hK hc hJ hP hD hS (hts _ (bP 7 rfl)) 148 (by decide) (by decide) rfl (hts _ (bP 95 rfl)) rfl rfl (ty := .int) (by decide +kernel) (N' := 82) (by decide) (by decide) (by decide) (by omega) (by omega) dX13_init_1109 dX13_init_1111 (fun H locs fs hJ hP hD hS => ?_)
  refine lv_aload_n hx hb dX13_init_1114 rfl (lv_at hl 0 rfl) ?_
  refine lv_bipush (v := 82) hx hb dX13_init_1115 (by decide) ?_
  refine k_arrF hts iX13 tyX13 tyX13_ok nmX13 hx hb hown hin2 hK hc hJ hP hD hS (hts _ (bP 7 rfl)) 149 (by decide) (by decide) rfl (hts _ (bP 96 rfl)) rfl rfl (ty := .int) (by decide +kernel) (N' := 82) (by decide) (by decide) (by decide) (by omega) (by omega) dX13_init_1117 dX13_init_1119 (fun H locs fs hJ hP hD hS => ?_)
  refine lv_aload_n hx hb dX13_init_1122 rfl (lv_at hl 0 rfl) ?_
  refine lv_bipush (v := 82) hx hb dX13_init_1123 (by decide) ?_
  refine k_arrF hts iX13 tyX13 tyX13_ok nmX13 hx hb hown hin2 hK hc hJ hP hD hS (hts _ (bP 7 rfl)) 150 (by decide) (by decide) rfl (hts _ (bP 97 rfl)) rfl rfl (ty := .int) (by decide +kernel) (N' := 82) (by decide) (by decide) (by decide) (by omega) (by omega) dX13_init_1125 dX13_init_1127 (fun H locs fs hJ hP hD hS => ?_)
  refine lv_aload_n hx hb dX13_init_1130 rfl (lv_at hl 0 rfl) ?_
  refine lv_bipush (v := 82) hx hb dX13_init_1131 (by decide) ?_
  refine k_arrF hts iX13 tyX13 tyX13_ok nmX13 hx hb hown hin2 hK hc hJ hP hD hS (hts _ (bP 7 rfl)) 151 (by decide) (by decide) rfl (hts _ (bP 98 rfl)) rfl rfl (ty := .int) (by decide +kernel) (N' := 82) (by decide) (by decide) (by decide) (by omega) (by omega) dX13_init_1133 dX13_init_1135 (fun H locs fs hJ hP hD hS => ?_)
  refine lv_aload_n hx hb dX13_init_1138 rfl (lv_at hl 0 rfl) ?_
  refine lv_bipush (v := 82) hx hb dX13_init_1139 (by decide) ?_
  refine k_arrF hts iX13 tyX13 tyX13_ok nmX13 hx hb hown hin2 hK hc hJ hP hD hS (hts _ (bP 7 rfl)) 152 (by decide) (by decide) rfl (hts _ (bP 99 rfl)) rfl rfl (ty := .int) (by decide +kernel) (N' := 82) (by decide) (by decide) (by decide) (by omega) (by omega) dX13_init_1141 dX13_init_1143 (fun H locs fs hJ hP hD hS => ?_)
  refine lv_aload_n hx hb dX13_init_1146 rfl (lv_at hl 0 rfl) ?_
  refine lv_bipush (v := 82) hx hb dX13_init_1147 (by decide) ?_
  refine k_arrF hts iX13 tyX13 tyX13_ok nmX13 hx hb hown hin2 hK hc hJ hP hD hS (hts _ (bP 7 rfl)) 153 (by decide) (by decide) rfl (hts _ (bP 100 rfl)) rfl rfl (ty := .int) (by decide +kernel) (N' := 82) (by decide) (by decide) (by decide) (by omega) (by omega) dX13_init_1149 dX13_init_1151 (fun H locs fs hJ hP hD hS => ?_)
  refine lv_aload_n hx hb dX13_init_1154 rfl (lv_at hl 0 rfl) ?_
  refine lv_bipush (v := 82) hx hb dX13_init_1155 (by decide) ?_
  refine k_arrF hts iX13 tyX13 tyX13_ok nmX13 hx hb hown hin2 hK hc hJ hP hD hS (hts _ (bP 7 rfl)) 154 (by decide) (by decide) rfl (hts _ (bP 101 rfl)) rfl rfl (ty := .int) (by decide +kernel) (N' := 82) (by decide) (by decide) (by decide) (by omega) (by omega) dX13_init_1157 dX13_init_1159 (fun H locs fs hJ hP hD hS => ?_)
  refine lv_aload_n hx hb dX13_init_1162 rfl (lv_at hl 0 rfl) ?_
  refine lv_bipush (v := 82) hx hb dX13_init_1163 (by decide) ?_
  refine k_arrF hts iX13 tyX13 tyX13_ok nmX13 hx hb hown hin2 hK hc hJ hP hD hS (hts _ (bP 7 rfl)) 155 (by decide) (by decide) rfl (hts _ (bP 102 rfl)) rfl rfl (ty := .int) (by decide +kernel) (N' := 82) (by decide) (by decide) (by decide) (by omega) (by omega) dX13_init_1165 dX13_init_1167 (fun H locs fs hJ hP hD hS => ?_)
  refine lv_aload_n hx hb dX13_init_1170 rfl (lv_at hl 0 rfl) ?_
  refine lv_bipush (v := 82) hx hb dX13_init_1171 (by decide) ?_
  refine k_arrF hts iX13 tyX13 tyX13_ok nmX13 hx hb hown hin2 hK hc hJ hP hD hS (hts _ (bP 7 rfl)) 156 (by decide) (by decide) rfl (hts _ (bP 103 rfl)) rfl rfl (ty := .int) (by decide +kernel) (N' := 82) (by decide) (by decide) (by decide) (by omega) (by omega) dX13_init_1173 dX13_init_1175 (fun H locs fs hJ hP hD hS => ?_)
  refine lv_aload_n hx hb dX13_init_1178 rfl (lv_at hl 0 rfl) ?_
  refine lv_bipush (v := 82) hx hb dX13_init_1179 (by decide) ?_
  refine k_arrF hts iX13 tyX13 tyX13_ok nmX13 hx hb hown hin2 hK hc hJ hP hD hS (hts _ (bP 7 rfl)) 157 (by decide) (by decide) rfl (hts _ (bP 104 rfl)) rfl rfl (ty := .int) (by decide +kernel) (N' := 82) (by decide) (by decide) (by decide) (by omega) (by omega) dX13_init_1181 dX13_init_1183 (fun H locs fs hJ hP hD hS => ?_)
  refine lv_aload_n hx hb dX13_init_1186 rfl (lv_at hl 0 rfl) ?_
  refine lv_bipush (v := 82) hx hb dX13_init_1187 (by decide) ?_
  refine k_arrF hts iX13 tyX13 tyX13_ok nmX13 hx hb hown hin2 hK hc hJ hP hD hS (hts _ (bP 7 rfl)) 158 (by decide) (by decide) rfl (hts _ (bP 105 rfl)) rfl rfl (ty := .int) (by decide +kernel) (N' := 82) (by decide) (by decide) (by decide) (by omega) (by omega) dX13_init_1189 dX13_init_1191 (fun H locs fs hJ hP hD hS => ?_)
  refine lv_aload_n hx hb dX13_init_1194 rfl (lv_at hl 0 rfl) ?_
  refine lv_bipush (v := 82) hx hb dX13_init_1195 (by decide) ?_
  refine k_arrF hts iX13 tyX13 tyX13_ok nmX13 hx hb hown hin2 hK hc hJ hP hD hS (hts _ (bP 41 rfl)) 159 (by decide) (by decide) rfl (hts _ (bP 106 rfl)) rfl rfl (ty := .boolean) (by decide +kernel) (N' := 82) (by decide) (by decide) (by decide) (by omega) (by omega) dX13_init_1197 dX13_init_1199 (fun H locs fs hJ hP hD hS => ?_)
  refine lv_aload_n hx hb dX13_init_1202 rfl (lv_at hl 0 rfl) ?_
  refine lv_bipush (v := 82) hx hb dX13_init_1203 (by decide) ?_
  refine k_arrF hts iX13 tyX13 tyX13_ok nmX13 hx hb hown hin2 hK hc hJ hP hD hS (hts _ (bP 7 rfl)) 160 (by decide) (by decide) rfl (hts _ (bP 107 rfl)) rfl rfl (ty := .int) (by decide +kernel) (N' := 82) (by decide) (by decide) (by decide) (by omega) (by omega) dX13_init_1205 dX13_init_1207 (fun H locs fs hJ hP hD hS => ?_)
  refine lv_aload_n hx hb dX13_init_1210 rfl (lv_at hl 0 rfl) ?_
  refine lv_bipush (v := 64) hx hb dX13_init_1211 (by decide) ?_
  refine k_arrQ hts iX13 tyX13 tyX13_ok nmX13 hx hb hown hin2 hK hc hJ hP hD hS (hts _ (bP 84 rfl)) hao 165 (by decide) (by decide) rfl (hts _ (bP 108 rfl)) rfl rfl (ty := .array .int) (by decide +kernel) (N' := 64) (by decide) (by decide) (by decide) (by omega) (by omega) dX13_init_1213 dX13_init_1216 (fun H locs fs hJ hP hD hS => ?_)
  refine lv_aload_n hx hb dX13_init_1219 rfl (lv_at hl 0 rfl) ?_
  refine lv_sipush (v := 256) hx hb dX13_init_1220 (by decide) ?_
  refine k_arrP hts iX13 tyX13 tyX13_ok nmX13 hx hb hown hK hc hJ hP hD hS (hts _ (bP 7 rfl)) 171 (by decide) (by decide) rfl (hts _ (bP 109 rfl)) rfl rfl (ty := .int) (by decide +kernel) (N' := 256) (by decide) (by decide) (by decide) (by omega) (by omega) dX13_init_1223 dX13_init_1225 (fun H locs fs hJ hP hD hS => ?_)
  refine lv_aload_n hx hb dX13_init_1228 rfl (lv_at hl 0 rfl) ?_
  refine lv_sipush (v := 256) hx hb dX13_init_1229 (by decide) ?_
  refine k_arrP hts iX13 tyX13 tyX13_ok nmX13 hx hb hown hK hc hJ hP hD hS (hts _ (bP 7 rfl)) 172 (by decide) (by decide) rfl (hts _ (bP 110 rfl)) rfl rfl (ty := .int) (by decide +kernel) (N' := 256) (by decide) (by decide) (by decide) (by omega) (by omega) dX13_init_1232 dX13_init_1234 (fun H locs fs hJ hP hD hS => ?_)
  refine W.widen (k := cells + 18) (n := slots + 1806) (by omega) (by omega) ?_
  exact kk H locs fs hJ hP hD hS
set_option maxHeartbeats 4000000 in
set_option maxRecDepth 100000 in
theorem mi_6 {p : Program} {l : Launch} {e : Env} {R : Room} {s : State} {m : MethodId} {args : Array Value} {below : List Frame} {meth : Method} {c : Code} {H : Heap} {locs : List Loc} {cells slots : Nat} {Q : State → Prop} {ls : Array Slot} {D : va_G} {A : Nat → Prop} {tys : List (ClassId × FieldType)} {H0 : Heap} {h0 : Nat} {fs : List Value} {wr : va_W} {qh q2 q7 q8 q9 q10 : Nat} {k0 : Cond} {cl : List vw_C} {ci : Nat}
    (hx : p.tables.exec = Jvm.exec) (hb : c.code = cX13_init) (hts : ∀ w ∈ k0 :: wP, w.before args s = true) (hown : s.vm.findClass RX13 = some m.cls) (hin2 : meth.name = "<init>") (hao : (Cond.arrayOver (.array .int)).before args s = true) (hc : cl[ci]? = some (RX13, TX13, 180)) (hl : lv_has ls 1 [(0, .ref h0)]) (hK : va_K D cl tys s) (hJ : kJ 180 (mL qh q2 q7 q8 q9 q10) fs) (hP : va_P D cl ((h0, .inr (ci, fs)) :: wr) H) (hD : va_D A ((h0, .inr (ci, fs)) :: wr)) (hS : va_S A H0 H locs)
    (hrc : cells + 2 ≤ R.cells) (hrs : slots + 1024 ≤ R.slots)
    (kk : ∀ (H1 : Heap) (locs1 : List Loc) (fs1 : List Value), kJ 180 (mL qh q2 q7 q8 q9 q10) fs1 → va_P D cl ((h0, .inr (ci, fs1)) :: wr) H1 → va_D A ((h0, .inr (ci, fs1)) :: wr) → va_S A H0 H1 locs1 → W p l e R s m args below meth c H1 locs1 (cells + 2) (slots + 1024) Q (F0 m 1255 ls [])) : W p l e R s m args below meth c H locs cells slots Q (F0 m 1237 ls []) := by
  refine lv_aload_n hx hb dX13_init_1237 rfl (lv_at hl 0 rfl) ?_
  refine lv_sipush (v := 512) hx hb dX13_init_1238 (by decide) ?_
  refine k_arrP hts iX13 tyX13 tyX13_ok nmX13 hx hb hown hK hc hJ hP hD hS (hts _ (bP 7 rfl)) 175 (by decide) (by decide) rfl (hts _ (bP 111 rfl)) rfl rfl (ty := .int) (by decide +kernel) (N' := 512) (by decide) (by decide) (by decide) (by omega) (by omega) dX13_init_1241 dX13_init_1243 (fun H locs fs hJ hP hD hS => ?_)
  refine lv_aload_n hx hb dX13_init_1246 rfl (lv_at hl 0 rfl) ?_
  refine lv_sipush (v := 512) hx hb dX13_init_1247 (by decide) ?_
  refine k_arrP hts iX13 tyX13 tyX13_ok nmX13 hx hb hown hK hc hJ hP hD hS (hts _ (bP 7 rfl)) 176 (by decide) (by decide) rfl (hts _ (bP 112 rfl)) rfl rfl (ty := .int) (by decide +kernel) (N' := 512) (by decide) (by decide) (by decide) (by omega) (by omega) dX13_init_1250 dX13_init_1252 (fun H locs fs hJ hP hD hS => ?_)
  refine W.widen (k := cells + 2) (n := slots + 1024) (by omega) (by omega) ?_
  exact kk H locs fs hJ hP hD hS
end
section
/-! The exception that the reference throws: made once, in the constructor, without a trace -/
set_option maxHeartbeats 4000000 in
set_option maxRecDepth 100000 in
/-- Throwable(text, null, false, false): no trace -/
theorem c_T4 (l : Launch) (dC : Nat → ClassId) (dI : Nat → Nat → Nat) (h0 qm sz : Nat) (fs : List Value) : Met l yT4 (.code yT4 cT4 5 none :: wP) ({ frames := 1, cells := 0, slots := 0, locals := 12 }) (va_Pc [.ref h0, .ref qm, .null, .int 0, .int 0] (fun U => U.heap.size = sz ∧ kJ 6 [] fs ∧ va_P (dC, dI) vwCl [(h0, .inr (12, fs))] U.heap ∧ va_K (dC, dI) vwCl [] U ∧ va_D (fun _ => True) [(h0, .inr (12, fs))] ∧ tZ (va_A [(h0, .inr (12, fs))] sz) U U.heap)) (va_Qv (fun fs1 : List Value => kJ 6 [] fs1) (fun (fs1 : List Value) (t : State) => va_P (dC, dI) vwCl [(h0, .inr (12, fs1))] t.heap ∧ va_K (dC, dI) vwCl [] t ∧ va_D (va_A [(h0, .inr (12, fs))] sz) [(h0, .inr (12, fs1))]) (va_A [(h0, .inr (12, fs))] sz)) 0 0 (va_A [(h0, .inr (12, fs))] sz) := by
  refine Met.ofW (cc := cT4) (maxL := 5) (ret := none) (by decide) rfl ?_
  intro p e s m args below meth c s₁ B hml hv
  obtain ⟨rfl, hsz, hJ, hP, hK, hD0, hZ⟩ := hv
  have hx := B.exec
  have hb := B.bytes
  have hr := B.returns
  have hts := atoms_spec (ws := .code yT4 cT4 5 none :: wP) B.pre
  have hown : s.vm.findClass RTh = some m.cls := findClass_of_methodNamed B.named
  subst hsz
  have hD := hD0.self (sz := s.heap.size)
  generalize hAe : va_A [(h0, .inr (12, fs))] s.heap.size = A at hD hZ ⊢
  have hA : ∀ q : Nat, s.heap.size ≤ q → A q := fun q h => by rw [← hAe]; exact Or.inr h
  have hS : va_S A s.heap s.heap [] := va_S.rf
  have hP : va_P (dC, dI) vwCl [(h0, .inr (12, fs))] s.heap := hP
  have hl := lv_entry ([.ref h0, .ref qm, .null, .int 0, .int 0]) (n := 5) (Nat.le_of_ble_eq_true rfl)
  rw [lg_entry_eq]
  generalize (lg_sl ([.ref h0, .ref qm, .null, .int 0, .int 0]) ++ List.replicate (5 - (lg_sl ([.ref h0, .ref qm, .null, .int 0, .int 0])).length) Slot.unset).toArray = ls at hl ⊢
  have hl : lv_has ls 5 [(0, .ref h0), (1, .ref qm), (2, .null), (3, .int 0), (4, .int 0)] := hl
  obtain ⟨v1, hZ1, -, hv1⟩ := zq_val hZ.1
  obtain ⟨v2, hZ2, hv2, -⟩ := zq_val hZ.2
  refine lv_aload_n hx hb dT4_0 rfl (lv_at hl 0 rfl) ?_
  refine W.objInit hx hb hown (hts _ (bP 128 rfl)) (hts _ (bP 1 rfl)) (hts _ (bP 2 rfl)) rfl (by rw [hml]; exact hl.1) rfl dT4_1 (Nat.le_of_ble_eq_true rfl) (Nat.le_of_ble_eq_true rfl) ?_
  refine W.eq (g2 := F0 m 4 ls []) rfl ?_
  refine lv_aload_n hx hb dT4_4 rfl (lv_at hl 0 rfl) ?_
  refine lv_aload_n hx hb dT4_5 rfl (lv_at hl 0 rfl) ?_
  refine k_put [] hts iX12 tyX12 tyX12_ok nmX12 hx hb hown hK rfl hJ hP hD hS 0 (by decide) (by decide) (hts _ (bP 129 rfl)) rfl (ty := .object "java/lang/Throwable") (by decide +kernel) (v := .ref h0) rfl rfl dT4_6 (fun f h => kJ_set h _ _ rfl) (fun H locs fs hJ hP hD hS => ?_)
  refine lv_aload_n hx hb dT4_9 rfl (lv_at hl 0 rfl) ?_
  refine va_gets hx hb hZ1 hS hown (hts _ (bP 130 rfl)) (fun _ h9 => h9) dT4_10 ?_
  refine k_put [] hts iX12 tyX12 tyX12_ok nmX12 hx hb hown hK rfl hJ hP hD hS 1 (by decide) (by decide) (hts _ (bP 131 rfl)) rfl (ty := .array (.object "java/lang/StackTraceElement")) (by decide +kernel) (v := v1) (hv1 _).1 (hv1 _).2 dT4_13 (fun f h => kJ_set h _ _ rfl) (fun H locs fs hJ hP hD hS => ?_)
  refine lv_aload_n hx hb dT4_16 rfl (lv_at hl 0 rfl) ?_
  refine va_gets hx hb hZ2 hS hown (hts _ (bP 132 rfl)) (fun _ h9 => h9) dT4_17 ?_
  refine k_put [] hts iX12 tyX12 tyX12_ok nmX12 hx hb hown hK rfl hJ hP hD hS 2 (by decide) (by decide) (hts _ (bP 133 rfl)) rfl (ty := .object "java/util/List") (by decide +kernel) (v := v2) (hv2 _).1 (hv2 _).2 dT4_20 (fun f h => kJ_set h _ _ rfl) (fun H locs fs hJ hP hD hS => ?_)
  refine lv_iload hx hb dT4_23 (lv_at hl 4 rfl) ?_
  refine lv_if_eq (tgt := 36) hx hb dT4_25 (by decide) (fun _ => ?_) (fun h => absurd rfl h)
  refine lv_aload_n hx hb dT4_36 rfl (lv_at hl 0 rfl) ?_
  refine lv_null hx hb dT4_37 ?_
  refine k_put [] hts iX12 tyX12 tyX12_ok nmX12 hx hb hown hK rfl hJ hP hD hS 1 (by decide) (by decide) (hts _ (bP 131 rfl)) rfl (ty := .array (.object "java/lang/StackTraceElement")) (by decide +kernel) (v := .null) rfl rfl dT4_38 (fun f h => kJ_set h _ _ rfl) (fun H locs fs hJ hP hD hS => ?_)
  refine lv_aload_n hx hb dT4_41 rfl (lv_at hl 0 rfl) ?_
  refine lv_aload_n hx hb dT4_42 rfl (lv_at hl 1 rfl) ?_
  refine k_put [] hts iX12 tyX12 tyX12_ok nmX12 hx hb hown hK rfl hJ hP hD hS 3 (by decide) (by decide) (hts _ (bP 134 rfl)) rfl (ty := .object "java/lang/String") (by decide +kernel) (v := .ref qm) rfl rfl dT4_43 (fun f h => kJ_set h _ _ rfl) (fun H locs fs hJ hP hD hS => ?_)
  refine lv_aload_n hx hb dT4_46 rfl (lv_at hl 0 rfl) ?_
  refine lv_aload_nN hx hb dT4_47 rfl (lv_at hl 2 rfl) ?_
  refine k_put [] hts iX12 tyX12 tyX12_ok nmX12 hx hb hown hK rfl hJ hP hD hS 0 (by decide) (by decide) (hts _ (bP 129 rfl)) rfl (ty := .object "java/lang/Throwable") (by decide +kernel) (v := .null) rfl rfl dT4_48 (fun f h => kJ_set h _ _ rfl) (fun H locs fs hJ hP hD hS => ?_)
  refine lv_iload_n hx hb dT4_51 rfl (lv_at hl 3 rfl) ?_
  refine lv_if_ne (tgt := 60) hx hb dT4_52 (by decide) (fun h => absurd rfl h) (fun _ => ?_)
  refine lv_aload_n hx hb dT4_55 rfl (lv_at hl 0 rfl) ?_
  refine lv_null hx hb dT4_56 ?_
  refine k_put [] hts iX12 tyX12 tyX12_ok nmX12 hx hb hown hK rfl hJ hP hD hS 2 (by decide) (by decide) (hts _ (bP 133 rfl)) rfl (ty := .object "java/util/List") (by decide +kernel) (v := .null) rfl rfl dT4_57 (fun f h => kJ_set h _ _ rfl) (fun H locs fs hJ hP hD hS => ?_)
  exact W.vret hx hb hr (fun t ht hW => ⟨⟨fs, rfl, hJ, by rw [ht]; exact hP, va_K.moved hW.alike hK, hD⟩, hS.F ht⟩) hS.2.2 dT4_60
set_option maxHeartbeats 4000000 in
set_option maxRecDepth 100000 in
/-- c_E4 -/
theorem c_E4 (l : Launch) (dC : Nat → ClassId) (dI : Nat → Nat → Nat) (h0 qm sz : Nat) (fs : List Value) : Met l yE4 (.code yE4 cE4 5 none :: wP) ({ frames := 2, cells := 0, slots := 0, locals := 36 }) (va_Pc [.ref h0, .ref qm, .null, .int 0, .int 0] (fun U => U.heap.size = sz ∧ kJ 6 [] fs ∧ va_P (dC, dI) vwCl [(h0, .inr (12, fs))] U.heap ∧ va_K (dC, dI) vwCl [] U ∧ va_D (fun _ => True) [(h0, .inr (12, fs))] ∧ tZ (va_A [(h0, .inr (12, fs))] sz) U U.heap)) (va_Qv (fun fs1 : List Value => kJ 6 [] fs1) (fun (fs1 : List Value) (t : State) => va_P (dC, dI) vwCl [(h0, .inr (12, fs1))] t.heap ∧ va_K (dC, dI) vwCl [] t ∧ va_D (va_A [(h0, .inr (12, fs))] sz) [(h0, .inr (12, fs1))]) (va_A [(h0, .inr (12, fs))] sz)) 0 0 (va_A [(h0, .inr (12, fs))] sz) := by
  refine Met.ofW (cc := cE4) (maxL := 5) (ret := none) (by decide) rfl ?_
  intro p e s m args below meth c s₁ B hml hv
  obtain ⟨rfl, hsz, hJ, hP, hK, hD0, hZ⟩ := hv
  have hx := B.exec
  have hb := B.bytes
  have hr := B.returns
  have hts := atoms_spec (ws := .code yE4 cE4 5 none :: wP) B.pre
  have hown : s.vm.findClass REx = some m.cls := findClass_of_methodNamed B.named
  subst hsz
  have hD := hD0.self (sz := s.heap.size)
  generalize hAe : va_A [(h0, .inr (12, fs))] s.heap.size = A at hD hZ ⊢
  have hA : ∀ q : Nat, s.heap.size ≤ q → A q := fun q h => by rw [← hAe]; exact Or.inr h
  have hS : va_S A s.heap s.heap [] := va_S.rf
  have hP : va_P (dC, dI) vwCl [(h0, .inr (12, fs))] s.heap := hP
  have hl := lv_entry ([.ref h0, .ref qm, .null, .int 0, .int 0]) (n := 5) (Nat.le_of_ble_eq_true rfl)
  rw [lg_entry_eq]
  generalize (lg_sl ([.ref h0, .ref qm, .null, .int 0, .int 0]) ++ List.replicate (5 - (lg_sl ([.ref h0, .ref qm, .null, .int 0, .int 0])).length) Slot.unset).toArray = ls at hl ⊢
  have hl : lv_has ls 5 [(0, .ref h0), (1, .ref qm), (2, .null), (3, .int 0), (4, .int 0)] := hl
  refine lv_aload_n hx hb dE4_0 rfl (lv_at hl 0 rfl) ?_
  refine lv_aload_n hx hb dE4_1 rfl (lv_at hl 1 rfl) ?_
  refine lv_aload_nN hx hb dE4_2 rfl (lv_at hl 2 rfl) ?_
  refine lv_iload_n hx hb dE4_3 rfl (lv_at hl 3 rfl) ?_
  refine lv_iload hx hb dE4_4 (lv_at hl 4 rfl) ?_
  obtain ⟨H, hHe⟩ : ∃ H, H = s.heap := ⟨_, rfl⟩
  rw [← hHe] at hP ⊢
  have hS : va_S A s.heap H [] := by rw [hHe]; exact hS
  have hZc : tZ (va_A [(h0, .inr (12, fs))] H.size) s H := (hZ.kept (fun a h1 h2 => hS.2.1 a h1 h2)).narrow (fun q h => by
    rcases h with ⟨k, e9, h⟩ | h
    · exact hD.2 k _ h
    · exact hA q (Nat.le_trans hS.1 h))
  have hFc := va_free (wc := [(h0, .inr (12, fs))]) hD hS hA [0] rfl
  refine va_callv (va_runI (As := [.ref qm, .null, .int 0, .int 0]) (rest := []) ⟨hx, hb, hml, hown, hts⟩ (c_T4 l dC dI h0 qm H.size fs) (cwI 4 hts (gP _ 126 rfl) rfl rfl rfl (hts _ (bP 127 rfl)) (hts _ (bP 124 rfl)) (hts _ (bP 125 rfl)) rfl (by decide +kernel) ⟨Nat.le_of_ble_eq_true rfl, Nat.le_of_ble_eq_true rfl⟩) ⟨fun a U g mk q => by obtain ⟨q0, q1, qJ, qP, qK, qD, qZ⟩ := q; exact ⟨q0, q1, qJ, qP, va_K.moved (u := U) (U := U.calling g mk a) (Vm.Alike.refl U.vm) qK, qD, tZ.moved (u := U) (U := U.calling g mk a) (Vm.Alike.refl U.vm) qZ⟩, fun U hU hW => ⟨rfl, by rw [hU], hJ, by rw [hU]; exact hP, va_K.moved hW.alike hK, hD.weaken (fun _ _ _ _ => trivial), by rw [hU]; exact tZ.moved hW.alike hZc⟩⟩ rfl rfl hl.1 rfl (lv_room (Nat.le_of_ble_eq_true rfl)) dE4_6 ⟨by simp, by simp⟩) hS (fun q _ h => hFc q h) hFc (fun u t H1 locs ht hvm hw hB hz1 hk1 hS => ?_)
  obtain ⟨fs1, rfl⟩ : ∃ z, z = u := ⟨_, rfl⟩
  obtain ⟨hP1, hK1, hD1⟩ := hB
  rw [ht] at hP1
  have hD1 := hD1.weaken (fun _ q _ h => hFc q.1 h)
  exact W.vret hx hb hr (fun t2 ht2 hW2 => ⟨⟨fs1, rfl, hw, by rw [ht2]; exact hP1, va_K.moved hW2.alike (va_K.moved hvm.symm hK1), hD1⟩, hS.F ht2⟩) hS.2.2 dE4_9
set_option maxHeartbeats 4000000 in
set_option maxRecDepth 100000 in
/-- c_R4 -/
theorem c_R4 (l : Launch) (dC : Nat → ClassId) (dI : Nat → Nat → Nat) (h0 qm sz : Nat) (fs : List Value) : Met l yR4 (.code yR4 cR4 5 none :: wP) ({ frames := 3, cells := 0, slots := 0, locals := 60 }) (va_Pc [.ref h0, .ref qm, .null, .int 0, .int 0] (fun U => U.heap.size = sz ∧ kJ 6 [] fs ∧ va_P (dC, dI) vwCl [(h0, .inr (12, fs))] U.heap ∧ va_K (dC, dI) vwCl [] U ∧ va_D (fun _ => True) [(h0, .inr (12, fs))] ∧ tZ (va_A [(h0, .inr (12, fs))] sz) U U.heap)) (va_Qv (fun fs1 : List Value => kJ 6 [] fs1) (fun (fs1 : List Value) (t : State) => va_P (dC, dI) vwCl [(h0, .inr (12, fs1))] t.heap ∧ va_K (dC, dI) vwCl [] t ∧ va_D (va_A [(h0, .inr (12, fs))] sz) [(h0, .inr (12, fs1))]) (va_A [(h0, .inr (12, fs))] sz)) 0 0 (va_A [(h0, .inr (12, fs))] sz) := by
  refine Met.ofW (cc := cR4) (maxL := 5) (ret := none) (by decide) rfl ?_
  intro p e s m args below meth c s₁ B hml hv
  obtain ⟨rfl, hsz, hJ, hP, hK, hD0, hZ⟩ := hv
  have hx := B.exec
  have hb := B.bytes
  have hr := B.returns
  have hts := atoms_spec (ws := .code yR4 cR4 5 none :: wP) B.pre
  have hown : s.vm.findClass RRt = some m.cls := findClass_of_methodNamed B.named
  subst hsz
  have hD := hD0.self (sz := s.heap.size)
  generalize hAe : va_A [(h0, .inr (12, fs))] s.heap.size = A at hD hZ ⊢
  have hA : ∀ q : Nat, s.heap.size ≤ q → A q := fun q h => by rw [← hAe]; exact Or.inr h
  have hS : va_S A s.heap s.heap [] := va_S.rf
  have hP : va_P (dC, dI) vwCl [(h0, .inr (12, fs))] s.heap := hP
  have hl := lv_entry ([.ref h0, .ref qm, .null, .int 0, .int 0]) (n := 5) (Nat.le_of_ble_eq_true rfl)
  rw [lg_entry_eq]
  generalize (lg_sl ([.ref h0, .ref qm, .null, .int 0, .int 0]) ++ List.replicate (5 - (lg_sl ([.ref h0, .ref qm, .null, .int 0, .int 0])).length) Slot.unset).toArray = ls at hl ⊢
  have hl : lv_has ls 5 [(0, .ref h0), (1, .ref qm), (2, .null), (3, .int 0), (4, .int 0)] := hl
  refine lv_aload_n hx hb dR4_0 rfl (lv_at hl 0 rfl) ?_
  refine lv_aload_n hx hb dR4_1 rfl (lv_at hl 1 rfl) ?_
  refine lv_aload_nN hx hb dR4_2 rfl (lv_at hl 2 rfl) ?_
  refine lv_iload_n hx hb dR4_3 rfl (lv_at hl 3 rfl) ?_
  refine lv_iload hx hb dR4_4 (lv_at hl 4 rfl) ?_
  obtain ⟨H, hHe⟩ : ∃ H, H = s.heap := ⟨_, rfl⟩
  rw [← hHe] at hP ⊢
  have hS : va_S A s.heap H [] := by rw [hHe]; exact hS
  have hZc : tZ (va_A [(h0, .inr (12, fs))] H.size) s H := (hZ.kept (fun a h1 h2 => hS.2.1 a h1 h2)).narrow (fun q h => by
    rcases h with ⟨k, e9, h⟩ | h
    · exact hD.2 k _ h
    · exact hA q (Nat.le_trans hS.1 h))
  have hFc := va_free (wc := [(h0, .inr (12, fs))]) hD hS hA [0] rfl
  refine va_callv (va_runI (As := [.ref qm, .null, .int 0, .int 0]) (rest := []) ⟨hx, hb, hml, hown, hts⟩ (c_E4 l dC dI h0 qm H.size fs) (cwI 4 hts (gP _ 122 rfl) rfl rfl rfl (hts _ (bP 123 rfl)) (hts _ (bP 120 rfl)) (hts _ (bP 121 rfl)) rfl (by decide +kernel) ⟨Nat.le_of_ble_eq_true rfl, Nat.le_of_ble_eq_true rfl⟩) ⟨fun a U g mk q => by obtain ⟨q0, q1, qJ, qP, qK, qD, qZ⟩ := q; exact ⟨q0, q1, qJ, qP, va_K.moved (u := U) (U := U.calling g mk a) (Vm.Alike.refl U.vm) qK, qD, tZ.moved (u := U) (U := U.calling g mk a) (Vm.Alike.refl U.vm) qZ⟩, fun U hU hW => ⟨rfl, by rw [hU], hJ, by rw [hU]; exact hP, va_K.moved hW.alike hK, hD.weaken (fun _ _ _ _ => trivial), by rw [hU]; exact tZ.moved hW.alike hZc⟩⟩ rfl rfl hl.1 rfl (lv_room (Nat.le_of_ble_eq_true rfl)) dR4_6 ⟨by simp, by simp⟩) hS (fun q _ h => hFc q h) hFc (fun u t H1 locs ht hvm hw hB hz1 hk1 hS => ?_)
  obtain ⟨fs1, rfl⟩ : ∃ z, z = u := ⟨_, rfl⟩
  obtain ⟨hP1, hK1, hD1⟩ := hB
  rw [ht] at hP1
  have hD1 := hD1.weaken (fun _ q _ h => hFc q.1 h)
  exact W.vret hx hb hr (fun t2 ht2 hW2 => ⟨⟨fs1, rfl, hw, by rw [ht2]; exact hP1, va_K.moved hW2.alike (va_K.moved hvm.symm hK1), hD1⟩, hS.F ht2⟩) hS.2.2 dR4_9
end
section
/-! Halt(), MeetingHouseModel() -/
def mStrs : List (Nat × String) := [(22, "AFTER"), (24, "ALT"), (26, "AND"), (28, "BOOL"), (30, "BYTE"), (32, "CASE"), (34, "CHAN"), (36, "ELSE"), (38, "FALSE"), (40, "FOR"), (42, "FUNCTION"), (44, "IF"), (46, "INT"), (48, "IS"), (50, "MINUS"), (52, "MOSTNEG"), (54, "MOSTPOS"), (56, "NOT"), (58, "OF"), (60, "OR"), (62, "PAR"), (64, "PLUS"), (66, "PRI"), (68, "PROC"), (70, "PROTOCOL"), (72, "RESULT"), (74, "SEQ"), (76, "SIZE"), (78, "SKIP"), (80, "STOP"), (82, "TIMER"), (84, "TIMES"), (86, "TRUE"), (88, "VAL"), (90, "VALOF"), (92, "WHILE"), (98, "("), (100, ")"), (102, "["), (104, "]"), (106, ","), (108, ";"), (110, ":"), (112, ":="), (114, "?"), (116, "!"), (118, "&"), (120, "="), (122, "<>"), (124, "<"), (126, "<="), (128, ">"), (130, ">="), (132, "+"), (134, "-"), (136, "*"), (138, "/"), (140, "\\"), (142, "/\\"), (144, "\\/"), (146, "><"), (148, "<<"), (150, ">>"), (152, "~")]
def mStr (A : Nat → Prop) (U : State) : Prop := ∀ (i : Nat) (x : Nat × String), mStrs[i]? = some x → ∃ q, sT RX13 A x U q
theorem mStr.moved {A B : Nat → Prop} {u U : State} (h : mStr A u) (hW : u.WarmedH U.vm) (hq : ∀ a : Nat, a < u.heap.size → ¬ A a → U.heap[a]? = u.heap[a]?) (hB : ∀ q, B q → A q) : mStr B U := fun i x hi => by
  obtain ⟨q, h⟩ := h i x hi
  exact ⟨q, h.moved hW hq hB⟩
set_option maxHeartbeats 4000000 in
set_option maxRecDepth 100000 in
/-- Halt(): an exception without a trace -/
theorem c_Halt (l : Launch) (dC : Nat → ClassId) (dI : Nat → Nat → Nat) (h0 sz : Nat) (fs : List Value) : Met l yX12_init (.code yX12_init cX12_init 1 none :: wP) ({ frames := 4, cells := 0, slots := 0, locals := 84 }) (va_Pc [.ref h0] (fun U => U.heap.size = sz ∧ kJ 6 [] fs ∧ va_P (dC, dI) vwCl [(h0, .inr (12, fs))] U.heap ∧ va_K (dC, dI) vwCl [] U ∧ va_D (fun _ => True) [(h0, .inr (12, fs))] ∧ tZ (va_A [(h0, .inr (12, fs))] sz) U U.heap ∧ ∃ qm, vk_R RX12 1 "" qm U)) (va_Qv (fun fs1 : List Value => kJ 6 [] fs1) (fun (fs1 : List Value) (t : State) => va_P (dC, dI) vwCl [(h0, .inr (12, fs1))] t.heap ∧ va_K (dC, dI) vwCl [] t ∧ va_D (va_A [(h0, .inr (12, fs))] sz) [(h0, .inr (12, fs1))]) (va_A [(h0, .inr (12, fs))] sz)) 0 0 (va_A [(h0, .inr (12, fs))] sz) := by
  refine Met.ofW (cc := cX12_init) (maxL := 1) (ret := none) (by decide) rfl ?_
  intro p e s m args below meth c s₁ B hml hv
  obtain ⟨rfl, hsz, hJ, hP, hK, hD0, hZ, qm, hqm⟩ := hv
  have hx := B.exec
  have hb := B.bytes
  have hr := B.returns
  have hts := atoms_spec (ws := .code yX12_init cX12_init 1 none :: wP) B.pre
  have hown : s.vm.findClass RX12 = some m.cls := findClass_of_methodNamed B.named
  subst hsz
  have hD := hD0.self (sz := s.heap.size)
  generalize hAe : va_A [(h0, .inr (12, fs))] s.heap.size = A at hD hZ ⊢
  have hA : ∀ q : Nat, s.heap.size ≤ q → A q := fun q h => by rw [← hAe]; exact Or.inr h
  have hS : va_S A s.heap s.heap [] := va_S.rf
  have hl := lv_entry ([.ref h0]) (n := 1) (Nat.le_of_ble_eq_true rfl)
  rw [lg_entry_eq]
  generalize (lg_sl ([.ref h0]) ++ List.replicate (1 - (lg_sl ([.ref h0])).length) Slot.unset).toArray = ls at hl ⊢
  have hl : lv_has ls 1 [(0, .ref h0)] := hl
  refine lv_aload_n hx hb dX12_init_0 rfl (lv_at hl 0 rfl) ?_
  refine va_ldcS hx hb hown hqm dX12_init_1 ?_
  refine lv_null hx hb dX12_init_3 ?_
  refine lv_iconst (v := 0) hx hb dX12_init_4 (by decide) ?_
  refine lv_iconst (v := 0) hx hb dX12_init_5 (by decide) ?_
  obtain ⟨H, hHe⟩ : ∃ H, H = s.heap := ⟨_, rfl⟩
  rw [← hHe] at hP ⊢
  have hS : va_S A s.heap H [] := by rw [hHe]; exact hS
  have hZc : tZ (va_A [(h0, .inr (12, fs))] H.size) s H := (hZ.kept (fun a h1 h2 => hS.2.1 a h1 h2)).narrow (fun q h => by
    rcases h with ⟨k, e9, h⟩ | h
    · exact hD.2 k _ h
    · exact hA q (Nat.le_trans hS.1 h))
  have hFc := va_free (wc := [(h0, .inr (12, fs))]) hD hS hA [0] rfl
  refine va_callv (va_runI (As := [.ref qm, .null, .int 0, .int 0]) (rest := []) ⟨hx, hb, hml, hown, hts⟩ (c_R4 l dC dI h0 qm H.size fs) (cwI 4 hts (gP _ 118 rfl) rfl rfl rfl (hts _ (bP 119 rfl)) (hts _ (bP 116 rfl)) (hts _ (bP 117 rfl)) rfl (by decide +kernel) ⟨Nat.le_of_ble_eq_true rfl, Nat.le_of_ble_eq_true rfl⟩) ⟨fun a U g mk q => by obtain ⟨q0, q1, qJ, qP, qK, qD, qZ⟩ := q; exact ⟨q0, q1, qJ, qP, va_K.moved (u := U) (U := U.calling g mk a) (Vm.Alike.refl U.vm) qK, qD, tZ.moved (u := U) (U := U.calling g mk a) (Vm.Alike.refl U.vm) qZ⟩, fun U hU hW => ⟨rfl, by rw [hU], hJ, by rw [hU]; exact hP, va_K.moved hW.alike hK, hD.weaken (fun _ _ _ _ => trivial), by rw [hU]; exact tZ.moved hW.alike hZc⟩⟩ rfl rfl hl.1 rfl (lv_room (Nat.le_of_ble_eq_true rfl)) dX12_init_6 ⟨by simp, by simp⟩) hS (fun q _ h => hFc q h) hFc (fun u t H1 locs ht hvm hw hB hz1 hk1 hS => ?_)
  obtain ⟨fs1, rfl⟩ : ∃ z, z = u := ⟨_, rfl⟩
  obtain ⟨hP1, hK1, hD1⟩ := hB
  rw [ht] at hP1
  have hD1 := hD1.weaken (fun _ q _ h => hFc q.1 h)
  exact W.vret hx hb hr (fun t2 ht2 hW2 => ⟨⟨fs1, rfl, hw, by rw [ht2]; exact hP1, va_K.moved hW2.alike (va_K.moved hvm.symm hK1), hD1⟩, hS.F ht2⟩) hS.2.2 dX12_init_9
end
section
abbrev mW (h0 : Nat) (fs fsH : List Value) (qh q2 q7 q8 q9 q10 : Nat) (c2 c7 c8 c9 c10 : ClassId) : va_W := [(h0, .inr (13, fs)), (qh, .inr (12, fsH)), (q2, .inl (c2, 6000, .inl (fun _ => 0))), (q7, .inl (c7, 12002, .inl (fun _ => 0))), (q8, .inl (c8, 12002, .inl (fun _ => 0))), (q9, .inl (c9, 12002, .inl (fun _ => 0))), (q10, .inl (c10, 12002, .inl (fun _ => 0)))]
abbrev mTy (c2 c7 c8 c9 c10 : ClassId) : List (ClassId × FieldType) := [(c2, .int), (c7, .int), (c8, .int), (c9, .int), (c10, .int)]
abbrev mU : Type := List Value × List Value × Nat × Nat × Nat × Nat × Nat × Nat × ClassId × ClassId × ClassId × ClassId × ClassId
/-- a new MeetingHouseModel -/
abbrev mPost (u : mU) : Prop := match u with
  | (fs, fsH, qh, q2, q7, q8, q9, q10, _, _, _, _, _) => kJ 180 (mL qh q2 q7 q8 q9 q10) fs ∧ kJ 6 [] fsH
abbrev mAt (D : va_G) (A : Nat → Prop) (h0 : Nat) (u : mU) (t : State) : Prop := match u with
  | (fs, fsH, qh, q2, q7, q8, q9, q10, c2, c7, c8, c9, c10) => va_P D vwCl (mW h0 fs fsH qh q2 q7 q8 q9 q10 c2 c7 c8 c9 c10) t.heap ∧ va_K D vwCl (mTy c2 c7 c8 c9 c10) t ∧ va_D A (mW h0 fs fsH qh q2 q7 q8 q9 q10 c2 c7 c8 c9 c10)
/-- what the constructor asks of the start: the statics of Throwable, the text constants, arrays of texts and of rows -/
def mPre (A : Nat → Prop) (U : State) : Prop := tZ A U U.heap ∧ (∃ qm, vk_R RX12 1 "" qm U) ∧ mStr A U ∧ va_AO "java/lang/String" U ∧ aO (.array .int) U
theorem mPre.moved {A B : Nat → Prop} {u U : State} (h : mPre A u) (hW : u.WarmedH U.vm) (hq : ∀ a : Nat, a < u.heap.size → ¬ A a → U.heap[a]? = u.heap[a]?) (hB : ∀ q, B q → A q) : mPre B U := by
  obtain ⟨h1, ⟨qm, h2⟩, h3, h4, h5⟩ := h
  exact ⟨((h1.kept hq).narrow hB).moved hW.alike, ⟨qm, vk_R.warm hW h2⟩, h3.moved hW hq hB, va_AO.moved hW.alike h4, aO.moved hW.alike h5⟩
set_option maxHeartbeats 4000000 in
set_option maxRecDepth 100000 in
/-- MeetingHouseModel() -/
theorem c_Minit (l : Launch) (dC : Nat → ClassId) (dI : Nat → Nat → Nat) (h0 sz : Nat) (fs : List Value) : Met l yX13_init (.code yX13_init cX13_init 1 none :: wP) ({ frames := 5, cells := 100, slots := 848008, locals := 104 }) (va_Pc [.ref h0] (fun U => U.heap.size = sz ∧ kJ 180 [(3, .int 0), (110, .int 0), (123, .int 0)] fs ∧ va_P (dC, dI) vwCl [(h0, .inr (13, fs))] U.heap ∧ va_K (dC, dI) vwCl [] U ∧ va_D (fun _ => True) [(h0, .inr (13, fs))] ∧ mPre (va_A [(h0, .inr (13, fs))] sz) U)) (va_Qv mPost (mAt (dC, dI) (va_A [(h0, .inr (13, fs))] sz) h0) (va_A [(h0, .inr (13, fs))] sz)) 100 848008 (va_A [(h0, .inr (13, fs))] sz) := by
  refine Met.ofW (cc := cX13_init) (maxL := 1) (ret := none) (by decide) rfl ?_
  intro p e s m args below meth c s₁ B hml hv
  obtain ⟨rfl, hsz, hJ, hP, hK, hD0, hpre⟩ := hv
  have hx := B.exec
  have hb := B.bytes
  have hr := B.returns
  have hts := atoms_spec (ws := .code yX13_init cX13_init 1 none :: wP) B.pre
  have hown : s.vm.findClass RX13 = some m.cls := findClass_of_methodNamed B.named
  have hin2 : meth.name = "<init>" := (name_of_methodNamed B.named B.method).1
  subst hsz
  have hD := hD0.self (sz := s.heap.size)
  generalize hAe : va_A [(h0, .inr (13, fs))] s.heap.size = A at hD hpre ⊢
  have hA : ∀ q : Nat, s.heap.size ≤ q → A q := fun q h => by rw [← hAe]; exact Or.inr h
  have hS : va_S A s.heap s.heap [] := va_S.rf
  have hl := lv_entry ([.ref h0]) (n := 1) (Nat.le_of_ble_eq_true rfl)
  rw [lg_entry_eq]
  generalize (lg_sl ([.ref h0]) ++ List.replicate (1 - (lg_sl ([.ref h0])).length) Slot.unset).toArray = ls at hl ⊢
  have hl : lv_has ls 1 [(0, .ref h0)] := hl
  obtain ⟨hZ, ⟨qm, hqm⟩, hstr, hao1, hao2⟩ := hpre
  refine lv_aload_n hx hb dX13_init_0 rfl (lv_at hl 0 rfl) ?_
  refine W.objInit hx hb hown (hts _ (bP 0 rfl)) (hts _ (bP 1 rfl)) (hts _ (bP 2 rfl)) rfl (by rw [hml]; exact hl.1) rfl dX13_init_1 (Nat.le_of_ble_eq_true rfl) (Nat.le_of_ble_eq_true rfl) ?_
  refine W.eq (g2 := F0 m 4 ls []) rfl ?_
  refine lv_aload_n hx hb dX13_init_4 rfl (lv_at hl 0 rfl) ?_
  refine va_new (ci := 12) (fs := [.null, .null, .null, .null, .null, .int 0]) (C := RX12) (T := TX12) (N := 6) hx hb hts iX12 tyX12 tyX12_ok hown (hts _ (bP 3 rfl)) (hts _ (bP 4 rfl)) (hts _ (bP 5 rfl)) hK hP hD hS hA rfl (fun j hj => by match j, hj with | 0, _ => rfl | 1, _ => rfl | 2, _ => rfl | 3, _ => rfl | 4, _ => rfl | 5, _ => rfl | j + 6, h => exact absurd h (by omega)) (Nat.le_of_ble_eq_true rfl) (Nat.le_of_ble_eq_true rfl) dX13_init_5 (fun qh H hP hD hS => ?_)
  have hP : va_P (dC, dI) vwCl [(h0, .inr (13, fs)), (qh, .inr (12, [.null, .null, .null, .null, .null, .int 0]))] H := hP
  have hD : va_D A [(h0, .inr (13, fs)), (qh, .inr (12, [.null, .null, .null, .null, .null, .int 0]))] := hD
  obtain ⟨fsH, hfsH⟩ : ∃ z : List Value, z = [.null, .null, .null, .null, .null, .int 0] := ⟨_, rfl⟩
  rw [← hfsH] at hP hD
  have hJH : kJ 6 [] fsH := ⟨by rw [hfsH]; rfl, fun x hx => absurd hx List.not_mem_nil⟩
  clear hfsH
  refine lv_dup hx hb dX13_init_8 rfl ?_
  have hPc := hP.sub (ws' := [(qh, .inr (12, fsH))]) [1] rfl
  have hDc := hD.sub (ws' := [(qh, .inr (12, fsH))]) [1] (by decide) rfl
  have hFc := va_free (wc := [(qh, .inr (12, fsH))]) hD hS hA [1] rfl
  have hZc : tZ (va_A [(qh, .inr (12, fsH))] H.size) s H := (hZ.kept (fun a h1 h2 => hS.2.1 a h1 h2)).narrow (fun q h => hFc q h)
  refine va_callv (va_runI (As := []) (rest := [.ref qh, .ref h0]) ⟨hx, hb, hml, hown, hts⟩ (c_Halt l dC dI qh H.size fsH) (cwI 0 hts (gP _ 115 rfl) rfl rfl rfl (hts _ (bP 5 rfl)) (hts _ (bP 113 rfl)) (hts _ (bP 114 rfl)) rfl (by decide +kernel) ⟨Nat.le_of_ble_eq_true rfl, Nat.le_of_ble_eq_true rfl⟩) ⟨fun a U g mk q => by obtain ⟨q0, q1, qJ, qP, qK, qD, qZ, qm, qm1⟩ := q; exact ⟨q0, q1, qJ, qP, va_K.moved (u := U) (U := U.calling g mk a) (Vm.Alike.refl U.vm) qK, qD, tZ.moved (u := U) (U := U.calling g mk a) (Vm.Alike.refl U.vm) qZ, qm, vk_R.same (u := U) (U := U.calling g mk a) rfl qm1⟩, fun U hU hW => ⟨rfl, by rw [hU], hJH, by rw [hU]; exact hPc, va_K.moved hW.alike hK, hDc.weaken (fun _ _ _ _ => trivial), by rw [hU]; exact tZ.moved hW.alike hZc, qm, vk_R.warm hW hqm⟩⟩ rfl rfl hl.1 rfl (lv_room (Nat.le_of_ble_eq_true rfl)) dX13_init_9 ⟨Nat.le_of_ble_eq_true rfl, Nat.le_of_ble_eq_true rfl⟩) hS (fun q _ h => hFc q h) hFc (fun u t H1 locs ht hvm hw hB hz1 hk1 hS => ?_)
  obtain ⟨hP1, hK1, hD1⟩ := hB
  rw [ht] at hP1
  obtain ⟨hP, hD⟩ := va_join (wr := [(h0, .inr (13, fs))]) (w1 := [(qh, .inr (12, u))]) hP hD [1] [0] rfl rfl (by decide) (by decide) hk1 hFc hP1 hD1
  clear hPc hDc hFc hZc hP1 hK1 hD1 hJH
  have hJH : kJ 6 [] u := hw
  obtain ⟨fsH, hfsH⟩ : ∃ z, z = u := ⟨_, rfl⟩
  rw [← hfsH] at hP hD hJH
  clear hfsH hw
  generalize H1 = H at hP hS ⊢
  have hP : va_P (dC, dI) vwCl [(h0, .inr (13, fs)), (qh, .inr (12, fsH))] H := hP
  have hD : va_D A [(h0, .inr (13, fs)), (qh, .inr (12, fsH))] := hD
  refine k_putF ((0, .ref qh) :: [(3, .int 0), (110, .int 0), (123, .int 0)]) hts iX13 tyX13 tyX13_ok nmX13 hx hb hown hin2 hK rfl hJ hP hD hS 0 (by decide) (by decide) rfl (hts _ (bP 6 rfl)) rfl (ty := .object "MeetingHouseModel$Halt") (by decide +kernel) (v := .ref qh) rfl rfl dX13_init_12 (fun f h => kJ_add h _ _ rfl (by decide)) (fun H locs fs hJ hP hD hS => ?_)
  refine lv_aload_n hx hb dX13_init_15 rfl (lv_at hl 0 rfl) ?_
  refine lv_sipush (v := 6000) hx hb dX13_init_16 (by decide) ?_
  refine va_newa (ty := .int) (a0 := (6000, .inl (fun _ => 0))) hx hb (hts _ (bP 7 rfl)) rfl hK hP hD hS hA (fun _ => rfl) (by decide) (by decide) (by decide) (Nat.le_of_ble_eq_true rfl) (Nat.le_of_ble_eq_true rfl) dX13_init_19 (fun q2 c2 H hK hP hD hS => ?_)
  have hP : va_P (dC, dI) vwCl [(h0, .inr (13, fs)), (qh, .inr (12, fsH)), (q2, .inl (c2, 6000, .inl (fun _ => 0)))] H := hP
  have hD : va_D A [(h0, .inr (13, fs)), (qh, .inr (12, fsH)), (q2, .inl (c2, 6000, .inl (fun _ => 0)))] := hD
  have hK : va_K (dC, dI) vwCl [(c2, .int)] s := hK
  refine k_putF ((2, .ref q2) :: (0, .ref qh) :: [(3, .int 0), (110, .int 0), (123, .int 0)]) hts iX13 tyX13 tyX13_ok nmX13 hx hb hown hin2 hK rfl hJ hP hD hS 2 (by decide) (by decide) rfl (hts _ (bP 8 rfl)) rfl (ty := .array .int) (by decide +kernel) (v := .ref q2) rfl rfl dX13_init_21 (fun f h => kJ_add h _ _ rfl (by decide)) (fun H locs fs hJ hP hD hS => ?_)
  refine lv_aload_n hx hb dX13_init_24 rfl (lv_at hl 0 rfl) ?_
  refine lv_bipush (v := 36) hx hb dX13_init_25 (by decide) ?_
  refine va_newq (C := RJ0) (N' := 36) hx hb hown (hts _ (bP 9 rfl)) hao1 hK hP hD hS hA (by decide) (by decide) (by decide) (Nat.le_of_ble_eq_true rfl) (Nat.le_of_ble_eq_true rfl) dX13_init_27 (fun qs cs H hK hP hD hS => ?_)
  have hP := hP.sub (ws' := [(qs, .inl (cs, 36, .inr (.inr (.inr (.inr (fun _ => none)))))), (h0, .inr (13, fs)), (qh, .inr (12, fsH)), (q2, .inl (c2, 6000, .inl (fun _ => 0)))]) [3, 0, 1, 2] rfl
  have hD := hD.sub (ws' := [(qs, .inl (cs, 36, .inr (.inr (.inr (.inr (fun _ => none)))))), (h0, .inr (13, fs)), (qh, .inr (12, fsH)), (q2, .inl (c2, 6000, .inl (fun _ => 0)))]) [3, 0, 1, 2] (by decide) rfl
  refine lv_dup hx hb dX13_init_30 rfl ?_
  refine lv_iconst (v := 0) hx hb dX13_init_31 (by decide) ?_
  obtain ⟨w, hw⟩ := hstr 0 _ rfl
  refine va_ldcS hx hb hown hw.1 dX13_init_32 ?_
  refine k_aast hx hb hK hP hD hS 1 rfl (hw.any hS) (by unfold vp_in; decide) dX13_init_34 (fun H locs f hP hD hS => ?_)
  clear hw
  refine lv_dup hx hb dX13_init_35 rfl ?_
  refine lv_iconst (v := 1) hx hb dX13_init_36 (by decide) ?_
  obtain ⟨w, hw⟩ := hstr 1 _ rfl
  refine va_ldcS hx hb hown hw.1 dX13_init_37 ?_
  refine k_aast hx hb hK hP hD hS 1 rfl (hw.any hS) (by unfold vp_in; decide) dX13_init_39 (fun H locs f hP hD hS => ?_)
  clear hw
  refine lv_dup hx hb dX13_init_40 rfl ?_
  refine lv_iconst (v := 2) hx hb dX13_init_41 (by decide) ?_
  obtain ⟨w, hw⟩ := hstr 2 _ rfl
  refine va_ldcS hx hb hown hw.1 dX13_init_42 ?_
  refine k_aast hx hb hK hP hD hS 1 rfl (hw.any hS) (by unfold vp_in; decide) dX13_init_44 (fun H locs f hP hD hS => ?_)
  clear hw
  refine lv_dup hx hb dX13_init_45 rfl ?_
  refine lv_iconst (v := 3) hx hb dX13_init_46 (by decide) ?_
  obtain ⟨w, hw⟩ := hstr 3 _ rfl
  refine va_ldcS hx hb hown hw.1 dX13_init_47 ?_
  refine k_aast hx hb hK hP hD hS 1 rfl (hw.any hS) (by unfold vp_in; decide) dX13_init_49 (fun H locs f hP hD hS => ?_)
  clear hw
  refine lv_dup hx hb dX13_init_50 rfl ?_
  refine lv_iconst (v := 4) hx hb dX13_init_51 (by decide) ?_
  obtain ⟨w, hw⟩ := hstr 4 _ rfl
  refine va_ldcS hx hb hown hw.1 dX13_init_52 ?_
  refine k_aast hx hb hK hP hD hS 1 rfl (hw.any hS) (by unfold vp_in; decide) dX13_init_54 (fun H locs f hP hD hS => ?_)
  clear hw
  refine lv_dup hx hb dX13_init_55 rfl ?_
  refine lv_iconst (v := 5) hx hb dX13_init_56 (by decide) ?_
  obtain ⟨w, hw⟩ := hstr 5 _ rfl
  refine va_ldcS hx hb hown hw.1 dX13_init_57 ?_
  refine k_aast hx hb hK hP hD hS 1 rfl (hw.any hS) (by unfold vp_in; decide) dX13_init_59 (fun H locs f hP hD hS => ?_)
  clear hw
  refine lv_dup hx hb dX13_init_60 rfl ?_
  refine lv_bipush (v := 6) hx hb dX13_init_61 (by decide) ?_
  obtain ⟨w, hw⟩ := hstr 6 _ rfl
  refine va_ldcS hx hb hown hw.1 dX13_init_63 ?_
  refine k_aast hx hb hK hP hD hS 1 rfl (hw.any hS) (by unfold vp_in; decide) dX13_init_65 (fun H locs f hP hD hS => ?_)
  clear hw
  refine lv_dup hx hb dX13_init_66 rfl ?_
  refine lv_bipush (v := 7) hx hb dX13_init_67 (by decide) ?_
  obtain ⟨w, hw⟩ := hstr 7 _ rfl
  refine va_ldcS hx hb hown hw.1 dX13_init_69 ?_
  refine k_aast hx hb hK hP hD hS 1 rfl (hw.any hS) (by unfold vp_in; decide) dX13_init_71 (fun H locs f hP hD hS => ?_)
  clear hw
  refine lv_dup hx hb dX13_init_72 rfl ?_
  refine lv_bipush (v := 8) hx hb dX13_init_73 (by decide) ?_
  obtain ⟨w, hw⟩ := hstr 8 _ rfl
  refine va_ldcS hx hb hown hw.1 dX13_init_75 ?_
  refine k_aast hx hb hK hP hD hS 1 rfl (hw.any hS) (by unfold vp_in; decide) dX13_init_77 (fun H locs f hP hD hS => ?_)
  clear hw
  refine lv_dup hx hb dX13_init_78 rfl ?_
  refine lv_bipush (v := 9) hx hb dX13_init_79 (by decide) ?_
  obtain ⟨w, hw⟩ := hstr 9 _ rfl
  refine va_ldcS hx hb hown hw.1 dX13_init_81 ?_
  refine k_aast hx hb hK hP hD hS 1 rfl (hw.any hS) (by unfold vp_in; decide) dX13_init_83 (fun H locs f hP hD hS => ?_)
  clear hw
  refine lv_dup hx hb dX13_init_84 rfl ?_
  refine lv_bipush (v := 10) hx hb dX13_init_85 (by decide) ?_
  obtain ⟨w, hw⟩ := hstr 10 _ rfl
  refine va_ldcS hx hb hown hw.1 dX13_init_87 ?_
  refine k_aast hx hb hK hP hD hS 1 rfl (hw.any hS) (by unfold vp_in; decide) dX13_init_89 (fun H locs f hP hD hS => ?_)
  clear hw
  refine lv_dup hx hb dX13_init_90 rfl ?_
  refine lv_bipush (v := 11) hx hb dX13_init_91 (by decide) ?_
  obtain ⟨w, hw⟩ := hstr 11 _ rfl
  refine va_ldcS hx hb hown hw.1 dX13_init_93 ?_
  refine k_aast hx hb hK hP hD hS 1 rfl (hw.any hS) (by unfold vp_in; decide) dX13_init_95 (fun H locs f hP hD hS => ?_)
  clear hw
  refine lv_dup hx hb dX13_init_96 rfl ?_
  refine lv_bipush (v := 12) hx hb dX13_init_97 (by decide) ?_
  obtain ⟨w, hw⟩ := hstr 12 _ rfl
  refine va_ldcS hx hb hown hw.1 dX13_init_99 ?_
  refine k_aast hx hb hK hP hD hS 1 rfl (hw.any hS) (by unfold vp_in; decide) dX13_init_101 (fun H locs f hP hD hS => ?_)
  clear hw
  refine lv_dup hx hb dX13_init_102 rfl ?_
  refine lv_bipush (v := 13) hx hb dX13_init_103 (by decide) ?_
  obtain ⟨w, hw⟩ := hstr 13 _ rfl
  refine va_ldcS hx hb hown hw.1 dX13_init_105 ?_
  refine k_aast hx hb hK hP hD hS 1 rfl (hw.any hS) (by unfold vp_in; decide) dX13_init_107 (fun H locs f hP hD hS => ?_)
  clear hw
  refine lv_dup hx hb dX13_init_108 rfl ?_
  refine lv_bipush (v := 14) hx hb dX13_init_109 (by decide) ?_
  obtain ⟨w, hw⟩ := hstr 14 _ rfl
  refine va_ldcS hx hb hown hw.1 dX13_init_111 ?_
  refine k_aast hx hb hK hP hD hS 1 rfl (hw.any hS) (by unfold vp_in; decide) dX13_init_113 (fun H locs f hP hD hS => ?_)
  clear hw
  refine lv_dup hx hb dX13_init_114 rfl ?_
  refine lv_bipush (v := 15) hx hb dX13_init_115 (by decide) ?_
  obtain ⟨w, hw⟩ := hstr 15 _ rfl
  refine va_ldcS hx hb hown hw.1 dX13_init_117 ?_
  refine k_aast hx hb hK hP hD hS 1 rfl (hw.any hS) (by unfold vp_in; decide) dX13_init_119 (fun H locs f hP hD hS => ?_)
  clear hw
  refine lv_dup hx hb dX13_init_120 rfl ?_
  refine lv_bipush (v := 16) hx hb dX13_init_121 (by decide) ?_
  obtain ⟨w, hw⟩ := hstr 16 _ rfl
  refine va_ldcS hx hb hown hw.1 dX13_init_123 ?_
  refine k_aast hx hb hK hP hD hS 1 rfl (hw.any hS) (by unfold vp_in; decide) dX13_init_125 (fun H locs f hP hD hS => ?_)
  clear hw
  refine lv_dup hx hb dX13_init_126 rfl ?_
  refine lv_bipush (v := 17) hx hb dX13_init_127 (by decide) ?_
  obtain ⟨w, hw⟩ := hstr 17 _ rfl
  refine va_ldcS hx hb hown hw.1 dX13_init_129 ?_
  refine k_aast hx hb hK hP hD hS 1 rfl (hw.any hS) (by unfold vp_in; decide) dX13_init_131 (fun H locs f hP hD hS => ?_)
  clear hw
  refine lv_dup hx hb dX13_init_132 rfl ?_
  refine lv_bipush (v := 18) hx hb dX13_init_133 (by decide) ?_
  obtain ⟨w, hw⟩ := hstr 18 _ rfl
  refine va_ldcS hx hb hown hw.1 dX13_init_135 ?_
  refine k_aast hx hb hK hP hD hS 1 rfl (hw.any hS) (by unfold vp_in; decide) dX13_init_137 (fun H locs f hP hD hS => ?_)
  clear hw
  refine lv_dup hx hb dX13_init_138 rfl ?_
  refine lv_bipush (v := 19) hx hb dX13_init_139 (by decide) ?_
  obtain ⟨w, hw⟩ := hstr 19 _ rfl
  refine va_ldcS hx hb hown hw.1 dX13_init_141 ?_
  refine k_aast hx hb hK hP hD hS 1 rfl (hw.any hS) (by unfold vp_in; decide) dX13_init_143 (fun H locs f hP hD hS => ?_)
  clear hw
  refine lv_dup hx hb dX13_init_144 rfl ?_
  refine lv_bipush (v := 20) hx hb dX13_init_145 (by decide) ?_
  obtain ⟨w, hw⟩ := hstr 20 _ rfl
  refine va_ldcS hx hb hown hw.1 dX13_init_147 ?_
  refine k_aast hx hb hK hP hD hS 1 rfl (hw.any hS) (by unfold vp_in; decide) dX13_init_149 (fun H locs f hP hD hS => ?_)
  clear hw
  refine lv_dup hx hb dX13_init_150 rfl ?_
  refine lv_bipush (v := 21) hx hb dX13_init_151 (by decide) ?_
  obtain ⟨w, hw⟩ := hstr 21 _ rfl
  refine va_ldcS hx hb hown hw.1 dX13_init_153 ?_
  refine k_aast hx hb hK hP hD hS 1 rfl (hw.any hS) (by unfold vp_in; decide) dX13_init_155 (fun H locs f hP hD hS => ?_)
  clear hw
  refine lv_dup hx hb dX13_init_156 rfl ?_
  refine lv_bipush (v := 22) hx hb dX13_init_157 (by decide) ?_
  obtain ⟨w, hw⟩ := hstr 22 _ rfl
  refine va_ldcS hx hb hown hw.1 dX13_init_159 ?_
  refine k_aast hx hb hK hP hD hS 1 rfl (hw.any hS) (by unfold vp_in; decide) dX13_init_161 (fun H locs f hP hD hS => ?_)
  clear hw
  refine lv_dup hx hb dX13_init_162 rfl ?_
  refine lv_bipush (v := 23) hx hb dX13_init_163 (by decide) ?_
  obtain ⟨w, hw⟩ := hstr 23 _ rfl
  refine va_ldcS hx hb hown hw.1 dX13_init_165 ?_
  refine k_aast hx hb hK hP hD hS 1 rfl (hw.any hS) (by unfold vp_in; decide) dX13_init_167 (fun H locs f hP hD hS => ?_)
  clear hw
  refine lv_dup hx hb dX13_init_168 rfl ?_
  refine lv_bipush (v := 24) hx hb dX13_init_169 (by decide) ?_
  obtain ⟨w, hw⟩ := hstr 24 _ rfl
  refine va_ldcS hx hb hown hw.1 dX13_init_171 ?_
  refine k_aast hx hb hK hP hD hS 1 rfl (hw.any hS) (by unfold vp_in; decide) dX13_init_173 (fun H locs f hP hD hS => ?_)
  clear hw
  refine lv_dup hx hb dX13_init_174 rfl ?_
  refine lv_bipush (v := 25) hx hb dX13_init_175 (by decide) ?_
  obtain ⟨w, hw⟩ := hstr 25 _ rfl
  refine va_ldcS hx hb hown hw.1 dX13_init_177 ?_
  refine k_aast hx hb hK hP hD hS 1 rfl (hw.any hS) (by unfold vp_in; decide) dX13_init_179 (fun H locs f hP hD hS => ?_)
  clear hw
  refine lv_dup hx hb dX13_init_180 rfl ?_
  refine lv_bipush (v := 26) hx hb dX13_init_181 (by decide) ?_
  obtain ⟨w, hw⟩ := hstr 26 _ rfl
  refine va_ldcS hx hb hown hw.1 dX13_init_183 ?_
  refine k_aast hx hb hK hP hD hS 1 rfl (hw.any hS) (by unfold vp_in; decide) dX13_init_185 (fun H locs f hP hD hS => ?_)
  clear hw
  refine lv_dup hx hb dX13_init_186 rfl ?_
  refine lv_bipush (v := 27) hx hb dX13_init_187 (by decide) ?_
  obtain ⟨w, hw⟩ := hstr 27 _ rfl
  refine va_ldcS hx hb hown hw.1 dX13_init_189 ?_
  refine k_aast hx hb hK hP hD hS 1 rfl (hw.any hS) (by unfold vp_in; decide) dX13_init_191 (fun H locs f hP hD hS => ?_)
  clear hw
  refine lv_dup hx hb dX13_init_192 rfl ?_
  refine lv_bipush (v := 28) hx hb dX13_init_193 (by decide) ?_
  obtain ⟨w, hw⟩ := hstr 28 _ rfl
  refine va_ldcS hx hb hown hw.1 dX13_init_195 ?_
  refine k_aast hx hb hK hP hD hS 1 rfl (hw.any hS) (by unfold vp_in; decide) dX13_init_197 (fun H locs f hP hD hS => ?_)
  clear hw
  refine lv_dup hx hb dX13_init_198 rfl ?_
  refine lv_bipush (v := 29) hx hb dX13_init_199 (by decide) ?_
  obtain ⟨w, hw⟩ := hstr 29 _ rfl
  refine va_ldcS hx hb hown hw.1 dX13_init_201 ?_
  refine k_aast hx hb hK hP hD hS 1 rfl (hw.any hS) (by unfold vp_in; decide) dX13_init_203 (fun H locs f hP hD hS => ?_)
  clear hw
  refine lv_dup hx hb dX13_init_204 rfl ?_
  refine lv_bipush (v := 30) hx hb dX13_init_205 (by decide) ?_
  obtain ⟨w, hw⟩ := hstr 30 _ rfl
  refine va_ldcS hx hb hown hw.1 dX13_init_207 ?_
  refine k_aast hx hb hK hP hD hS 1 rfl (hw.any hS) (by unfold vp_in; decide) dX13_init_209 (fun H locs f hP hD hS => ?_)
  clear hw
  refine lv_dup hx hb dX13_init_210 rfl ?_
  refine lv_bipush (v := 31) hx hb dX13_init_211 (by decide) ?_
  obtain ⟨w, hw⟩ := hstr 31 _ rfl
  refine va_ldcS hx hb hown hw.1 dX13_init_213 ?_
  refine k_aast hx hb hK hP hD hS 1 rfl (hw.any hS) (by unfold vp_in; decide) dX13_init_215 (fun H locs f hP hD hS => ?_)
  clear hw
  refine lv_dup hx hb dX13_init_216 rfl ?_
  refine lv_bipush (v := 32) hx hb dX13_init_217 (by decide) ?_
  obtain ⟨w, hw⟩ := hstr 32 _ rfl
  refine va_ldcS hx hb hown hw.1 dX13_init_219 ?_
  refine k_aast hx hb hK hP hD hS 1 rfl (hw.any hS) (by unfold vp_in; decide) dX13_init_221 (fun H locs f hP hD hS => ?_)
  clear hw
  refine lv_dup hx hb dX13_init_222 rfl ?_
  refine lv_bipush (v := 33) hx hb dX13_init_223 (by decide) ?_
  obtain ⟨w, hw⟩ := hstr 33 _ rfl
  refine va_ldcS hx hb hown hw.1 dX13_init_225 ?_
  refine k_aast hx hb hK hP hD hS 1 rfl (hw.any hS) (by unfold vp_in; decide) dX13_init_227 (fun H locs f hP hD hS => ?_)
  clear hw
  refine lv_dup hx hb dX13_init_228 rfl ?_
  refine lv_bipush (v := 34) hx hb dX13_init_229 (by decide) ?_
  obtain ⟨w, hw⟩ := hstr 34 _ rfl
  refine va_ldcS hx hb hown hw.1 dX13_init_231 ?_
  refine k_aast hx hb hK hP hD hS 1 rfl (hw.any hS) (by unfold vp_in; decide) dX13_init_233 (fun H locs f hP hD hS => ?_)
  clear hw
  refine lv_dup hx hb dX13_init_234 rfl ?_
  refine lv_bipush (v := 35) hx hb dX13_init_235 (by decide) ?_
  obtain ⟨w, hw⟩ := hstr 35 _ rfl
  refine va_ldcS hx hb hown hw.1 dX13_init_237 ?_
  refine k_aast hx hb hK hP hD hS 1 rfl (hw.any hS) (by unfold vp_in; decide) dX13_init_239 (fun H locs f hP hD hS => ?_)
  clear hw
  have hP := hP.sub (ws' := [(h0, .inr (13, fs)), (qh, .inr (12, fsH)), (q2, .inl (c2, 6000, .inl (fun _ => 0)))]) [1, 2, 3] rfl
  have hD := hD.sub (ws' := [(h0, .inr (13, fs)), (qh, .inr (12, fsH)), (q2, .inl (c2, 6000, .inl (fun _ => 0)))]) [1, 2, 3] (by decide) rfl
  have hK := hK.sub (tys' := [(c2, .int)]) [0] rfl
  refine k_putF ((2, .ref q2) :: (0, .ref qh) :: [(3, .int 0), (110, .int 0), (123, .int 0)]) hts iX13 tyX13 tyX13_ok nmX13 hx hb hown hin2 hK rfl hJ hP hD hS 4 (by decide) (by decide) rfl (hts _ (bP 10 rfl)) rfl (ty := .array (.object "java/lang/String")) (by decide +kernel) (v := .ref qs) rfl rfl dX13_init_240 (fun f h => kJ_set h _ _ rfl) (fun H locs fs hJ hP hD hS => ?_)
  refine lv_aload_n hx hb dX13_init_243 rfl (lv_at hl 0 rfl) ?_
  refine lv_bipush (v := 28) hx hb dX13_init_244 (by decide) ?_
  refine va_newq (C := RJ0) (N' := 28) hx hb hown (hts _ (bP 9 rfl)) hao1 hK hP hD hS hA (by decide) (by decide) (by decide) (Nat.le_of_ble_eq_true rfl) (Nat.le_of_ble_eq_true rfl) dX13_init_246 (fun qs cs H hK hP hD hS => ?_)
  have hP := hP.sub (ws' := [(qs, .inl (cs, 28, .inr (.inr (.inr (.inr (fun _ => none)))))), (h0, .inr (13, fs)), (qh, .inr (12, fsH)), (q2, .inl (c2, 6000, .inl (fun _ => 0)))]) [3, 0, 1, 2] rfl
  have hD := hD.sub (ws' := [(qs, .inl (cs, 28, .inr (.inr (.inr (.inr (fun _ => none)))))), (h0, .inr (13, fs)), (qh, .inr (12, fsH)), (q2, .inl (c2, 6000, .inl (fun _ => 0)))]) [3, 0, 1, 2] (by decide) rfl
  refine lv_dup hx hb dX13_init_249 rfl ?_
  refine lv_iconst (v := 0) hx hb dX13_init_250 (by decide) ?_
  obtain ⟨w, hw⟩ := hstr 36 _ rfl
  refine va_ldcS hx hb hown hw.1 dX13_init_251 ?_
  refine k_aast hx hb hK hP hD hS 1 rfl (hw.any hS) (by unfold vp_in; decide) dX13_init_253 (fun H locs f hP hD hS => ?_)
  clear hw
  refine lv_dup hx hb dX13_init_254 rfl ?_
  refine lv_iconst (v := 1) hx hb dX13_init_255 (by decide) ?_
  obtain ⟨w, hw⟩ := hstr 37 _ rfl
  refine va_ldcS hx hb hown hw.1 dX13_init_256 ?_
  refine k_aast hx hb hK hP hD hS 1 rfl (hw.any hS) (by unfold vp_in; decide) dX13_init_258 (fun H locs f hP hD hS => ?_)
  clear hw
  refine lv_dup hx hb dX13_init_259 rfl ?_
  refine lv_iconst (v := 2) hx hb dX13_init_260 (by decide) ?_
  obtain ⟨w, hw⟩ := hstr 38 _ rfl
  refine va_ldcS hx hb hown hw.1 dX13_init_261 ?_
  refine k_aast hx hb hK hP hD hS 1 rfl (hw.any hS) (by unfold vp_in; decide) dX13_init_263 (fun H locs f hP hD hS => ?_)
  clear hw
  refine lv_dup hx hb dX13_init_264 rfl ?_
  refine lv_iconst (v := 3) hx hb dX13_init_265 (by decide) ?_
  obtain ⟨w, hw⟩ := hstr 39 _ rfl
  refine va_ldcS hx hb hown hw.1 dX13_init_266 ?_
  refine k_aast hx hb hK hP hD hS 1 rfl (hw.any hS) (by unfold vp_in; decide) dX13_init_268 (fun H locs f hP hD hS => ?_)
  clear hw
  refine lv_dup hx hb dX13_init_269 rfl ?_
  refine lv_iconst (v := 4) hx hb dX13_init_270 (by decide) ?_
  obtain ⟨w, hw⟩ := hstr 40 _ rfl
  refine va_ldcS hx hb hown hw.1 dX13_init_271 ?_
  refine k_aast hx hb hK hP hD hS 1 rfl (hw.any hS) (by unfold vp_in; decide) dX13_init_273 (fun H locs f hP hD hS => ?_)
  clear hw
  refine lv_dup hx hb dX13_init_274 rfl ?_
  refine lv_iconst (v := 5) hx hb dX13_init_275 (by decide) ?_
  obtain ⟨w, hw⟩ := hstr 41 _ rfl
  refine va_ldcS hx hb hown hw.1 dX13_init_276 ?_
  refine k_aast hx hb hK hP hD hS 1 rfl (hw.any hS) (by unfold vp_in; decide) dX13_init_278 (fun H locs f hP hD hS => ?_)
  clear hw
  refine lv_dup hx hb dX13_init_279 rfl ?_
  refine lv_bipush (v := 6) hx hb dX13_init_280 (by decide) ?_
  obtain ⟨w, hw⟩ := hstr 42 _ rfl
  refine va_ldcS hx hb hown hw.1 dX13_init_282 ?_
  refine k_aast hx hb hK hP hD hS 1 rfl (hw.any hS) (by unfold vp_in; decide) dX13_init_284 (fun H locs f hP hD hS => ?_)
  clear hw
  refine lv_dup hx hb dX13_init_285 rfl ?_
  refine lv_bipush (v := 7) hx hb dX13_init_286 (by decide) ?_
  obtain ⟨w, hw⟩ := hstr 43 _ rfl
  refine va_ldcS hx hb hown hw.1 dX13_init_288 ?_
  refine k_aast hx hb hK hP hD hS 1 rfl (hw.any hS) (by unfold vp_in; decide) dX13_init_290 (fun H locs f hP hD hS => ?_)
  clear hw
  refine lv_dup hx hb dX13_init_291 rfl ?_
  refine lv_bipush (v := 8) hx hb dX13_init_292 (by decide) ?_
  obtain ⟨w, hw⟩ := hstr 44 _ rfl
  refine va_ldcS hx hb hown hw.1 dX13_init_294 ?_
  refine k_aast hx hb hK hP hD hS 1 rfl (hw.any hS) (by unfold vp_in; decide) dX13_init_296 (fun H locs f hP hD hS => ?_)
  clear hw
  refine lv_dup hx hb dX13_init_297 rfl ?_
  refine lv_bipush (v := 9) hx hb dX13_init_298 (by decide) ?_
  obtain ⟨w, hw⟩ := hstr 45 _ rfl
  refine va_ldcS hx hb hown hw.1 dX13_init_300 ?_
  refine k_aast hx hb hK hP hD hS 1 rfl (hw.any hS) (by unfold vp_in; decide) dX13_init_302 (fun H locs f hP hD hS => ?_)
  clear hw
  refine lv_dup hx hb dX13_init_303 rfl ?_
  refine lv_bipush (v := 10) hx hb dX13_init_304 (by decide) ?_
  obtain ⟨w, hw⟩ := hstr 46 _ rfl
  refine va_ldcS hx hb hown hw.1 dX13_init_306 ?_
  refine k_aast hx hb hK hP hD hS 1 rfl (hw.any hS) (by unfold vp_in; decide) dX13_init_308 (fun H locs f hP hD hS => ?_)
  clear hw
  refine lv_dup hx hb dX13_init_309 rfl ?_
  refine lv_bipush (v := 11) hx hb dX13_init_310 (by decide) ?_
  obtain ⟨w, hw⟩ := hstr 47 _ rfl
  refine va_ldcS hx hb hown hw.1 dX13_init_312 ?_
  refine k_aast hx hb hK hP hD hS 1 rfl (hw.any hS) (by unfold vp_in; decide) dX13_init_314 (fun H locs f hP hD hS => ?_)
  clear hw
  refine lv_dup hx hb dX13_init_315 rfl ?_
  refine lv_bipush (v := 12) hx hb dX13_init_316 (by decide) ?_
  obtain ⟨w, hw⟩ := hstr 48 _ rfl
  refine va_ldcS hx hb hown hw.1 dX13_init_318 ?_
  refine k_aast hx hb hK hP hD hS 1 rfl (hw.any hS) (by unfold vp_in; decide) dX13_init_320 (fun H locs f hP hD hS => ?_)
  clear hw
  refine lv_dup hx hb dX13_init_321 rfl ?_
  refine lv_bipush (v := 13) hx hb dX13_init_322 (by decide) ?_
  obtain ⟨w, hw⟩ := hstr 49 _ rfl
  refine va_ldcS hx hb hown hw.1 dX13_init_324 ?_
  refine k_aast hx hb hK hP hD hS 1 rfl (hw.any hS) (by unfold vp_in; decide) dX13_init_326 (fun H locs f hP hD hS => ?_)
  clear hw
  refine lv_dup hx hb dX13_init_327 rfl ?_
  refine lv_bipush (v := 14) hx hb dX13_init_328 (by decide) ?_
  obtain ⟨w, hw⟩ := hstr 50 _ rfl
  refine va_ldcS hx hb hown hw.1 dX13_init_330 ?_
  refine k_aast hx hb hK hP hD hS 1 rfl (hw.any hS) (by unfold vp_in; decide) dX13_init_332 (fun H locs f hP hD hS => ?_)
  clear hw
  refine lv_dup hx hb dX13_init_333 rfl ?_
  refine lv_bipush (v := 15) hx hb dX13_init_334 (by decide) ?_
  obtain ⟨w, hw⟩ := hstr 51 _ rfl
  refine va_ldcS hx hb hown hw.1 dX13_init_336 ?_
  refine k_aast hx hb hK hP hD hS 1 rfl (hw.any hS) (by unfold vp_in; decide) dX13_init_338 (fun H locs f hP hD hS => ?_)
  clear hw
  refine lv_dup hx hb dX13_init_339 rfl ?_
  refine lv_bipush (v := 16) hx hb dX13_init_340 (by decide) ?_
  obtain ⟨w, hw⟩ := hstr 52 _ rfl
  refine va_ldcS hx hb hown hw.1 dX13_init_342 ?_
  refine k_aast hx hb hK hP hD hS 1 rfl (hw.any hS) (by unfold vp_in; decide) dX13_init_344 (fun H locs f hP hD hS => ?_)
  clear hw
  refine lv_dup hx hb dX13_init_345 rfl ?_
  refine lv_bipush (v := 17) hx hb dX13_init_346 (by decide) ?_
  obtain ⟨w, hw⟩ := hstr 53 _ rfl
  refine va_ldcS hx hb hown hw.1 dX13_init_348 ?_
  refine k_aast hx hb hK hP hD hS 1 rfl (hw.any hS) (by unfold vp_in; decide) dX13_init_350 (fun H locs f hP hD hS => ?_)
  clear hw
  refine lv_dup hx hb dX13_init_351 rfl ?_
  refine lv_bipush (v := 18) hx hb dX13_init_352 (by decide) ?_
  obtain ⟨w, hw⟩ := hstr 54 _ rfl
  refine va_ldcS hx hb hown hw.1 dX13_init_354 ?_
  refine k_aast hx hb hK hP hD hS 1 rfl (hw.any hS) (by unfold vp_in; decide) dX13_init_356 (fun H locs f hP hD hS => ?_)
  clear hw
  refine lv_dup hx hb dX13_init_357 rfl ?_
  refine lv_bipush (v := 19) hx hb dX13_init_358 (by decide) ?_
  obtain ⟨w, hw⟩ := hstr 55 _ rfl
  refine va_ldcS hx hb hown hw.1 dX13_init_360 ?_
  refine k_aast hx hb hK hP hD hS 1 rfl (hw.any hS) (by unfold vp_in; decide) dX13_init_362 (fun H locs f hP hD hS => ?_)
  clear hw
  refine lv_dup hx hb dX13_init_363 rfl ?_
  refine lv_bipush (v := 20) hx hb dX13_init_364 (by decide) ?_
  obtain ⟨w, hw⟩ := hstr 56 _ rfl
  refine va_ldcS hx hb hown hw.1 dX13_init_366 ?_
  refine k_aast hx hb hK hP hD hS 1 rfl (hw.any hS) (by unfold vp_in; decide) dX13_init_368 (fun H locs f hP hD hS => ?_)
  clear hw
  refine lv_dup hx hb dX13_init_369 rfl ?_
  refine lv_bipush (v := 21) hx hb dX13_init_370 (by decide) ?_
  obtain ⟨w, hw⟩ := hstr 57 _ rfl
  refine va_ldcS hx hb hown hw.1 dX13_init_372 ?_
  refine k_aast hx hb hK hP hD hS 1 rfl (hw.any hS) (by unfold vp_in; decide) dX13_init_374 (fun H locs f hP hD hS => ?_)
  clear hw
  refine lv_dup hx hb dX13_init_375 rfl ?_
  refine lv_bipush (v := 22) hx hb dX13_init_376 (by decide) ?_
  obtain ⟨w, hw⟩ := hstr 58 _ rfl
  refine va_ldcS hx hb hown hw.1 dX13_init_378 ?_
  refine k_aast hx hb hK hP hD hS 1 rfl (hw.any hS) (by unfold vp_in; decide) dX13_init_380 (fun H locs f hP hD hS => ?_)
  clear hw
  refine lv_dup hx hb dX13_init_381 rfl ?_
  refine lv_bipush (v := 23) hx hb dX13_init_382 (by decide) ?_
  obtain ⟨w, hw⟩ := hstr 59 _ rfl
  refine va_ldcS hx hb hown hw.1 dX13_init_384 ?_
  refine k_aast hx hb hK hP hD hS 1 rfl (hw.any hS) (by unfold vp_in; decide) dX13_init_386 (fun H locs f hP hD hS => ?_)
  clear hw
  refine lv_dup hx hb dX13_init_387 rfl ?_
  refine lv_bipush (v := 24) hx hb dX13_init_388 (by decide) ?_
  obtain ⟨w, hw⟩ := hstr 60 _ rfl
  refine va_ldcS hx hb hown hw.1 dX13_init_390 ?_
  refine k_aast hx hb hK hP hD hS 1 rfl (hw.any hS) (by unfold vp_in; decide) dX13_init_392 (fun H locs f hP hD hS => ?_)
  clear hw
  refine lv_dup hx hb dX13_init_393 rfl ?_
  refine lv_bipush (v := 25) hx hb dX13_init_394 (by decide) ?_
  obtain ⟨w, hw⟩ := hstr 61 _ rfl
  refine va_ldcS hx hb hown hw.1 dX13_init_396 ?_
  refine k_aast hx hb hK hP hD hS 1 rfl (hw.any hS) (by unfold vp_in; decide) dX13_init_398 (fun H locs f hP hD hS => ?_)
  clear hw
  refine lv_dup hx hb dX13_init_399 rfl ?_
  refine lv_bipush (v := 26) hx hb dX13_init_400 (by decide) ?_
  obtain ⟨w, hw⟩ := hstr 62 _ rfl
  refine va_ldcS hx hb hown hw.1 dX13_init_402 ?_
  refine k_aast hx hb hK hP hD hS 1 rfl (hw.any hS) (by unfold vp_in; decide) dX13_init_404 (fun H locs f hP hD hS => ?_)
  clear hw
  refine lv_dup hx hb dX13_init_405 rfl ?_
  refine lv_bipush (v := 27) hx hb dX13_init_406 (by decide) ?_
  obtain ⟨w, hw⟩ := hstr 63 _ rfl
  refine va_ldcS hx hb hown hw.1 dX13_init_408 ?_
  refine k_aast hx hb hK hP hD hS 1 rfl (hw.any hS) (by unfold vp_in; decide) dX13_init_410 (fun H locs f hP hD hS => ?_)
  clear hw
  have hP := hP.sub (ws' := [(h0, .inr (13, fs)), (qh, .inr (12, fsH)), (q2, .inl (c2, 6000, .inl (fun _ => 0)))]) [1, 2, 3] rfl
  have hD := hD.sub (ws' := [(h0, .inr (13, fs)), (qh, .inr (12, fsH)), (q2, .inl (c2, 6000, .inl (fun _ => 0)))]) [1, 2, 3] (by decide) rfl
  have hK := hK.sub (tys' := [(c2, .int)]) [0] rfl
  refine k_putF ((2, .ref q2) :: (0, .ref qh) :: [(3, .int 0), (110, .int 0), (123, .int 0)]) hts iX13 tyX13 tyX13_ok nmX13 hx hb hown hin2 hK rfl hJ hP hD hS 5 (by decide) (by decide) rfl (hts _ (bP 11 rfl)) rfl (ty := .array (.object "java/lang/String")) (by decide +kernel) (v := .ref qs) rfl rfl dX13_init_411 (fun f h => kJ_set h _ _ rfl) (fun H locs fs hJ hP hD hS => ?_)
  refine lv_aload_n hx hb dX13_init_414 rfl (lv_at hl 0 rfl) ?_
  refine lv_sipush (v := 12002) hx hb dX13_init_415 (by decide) ?_
  refine va_newa (ty := .int) (a0 := (12002, .inl (fun _ => 0))) hx hb (hts _ (bP 7 rfl)) rfl hK hP hD hS hA (fun _ => rfl) (by decide) (by decide) (by decide) (Nat.le_of_ble_eq_true rfl) (Nat.le_of_ble_eq_true rfl) dX13_init_418 (fun q7 c7 H hK hP hD hS => ?_)
  have hP : va_P (dC, dI) vwCl [(h0, .inr (13, fs)), (qh, .inr (12, fsH)), (q2, .inl (c2, 6000, .inl (fun _ => 0))), (q7, .inl (c7, 12002, .inl (fun _ => 0)))] H := hP
  have hD : va_D A [(h0, .inr (13, fs)), (qh, .inr (12, fsH)), (q2, .inl (c2, 6000, .inl (fun _ => 0))), (q7, .inl (c7, 12002, .inl (fun _ => 0)))] := hD
  have hK : va_K (dC, dI) vwCl [(c2, .int), (c7, .int)] s := hK
  refine k_putF ((7, .ref q7) :: (2, .ref q2) :: (0, .ref qh) :: [(3, .int 0), (110, .int 0), (123, .int 0)]) hts iX13 tyX13 tyX13_ok nmX13 hx hb hown hin2 hK rfl hJ hP hD hS 7 (by decide) (by decide) rfl (hts _ (bP 12 rfl)) rfl (ty := .array .int) (by decide +kernel) (v := .ref q7) rfl rfl dX13_init_420 (fun f h => kJ_add h _ _ rfl (by decide)) (fun H locs fs hJ hP hD hS => ?_)
  refine lv_aload_n hx hb dX13_init_423 rfl (lv_at hl 0 rfl) ?_
  refine lv_sipush (v := 12002) hx hb dX13_init_424 (by decide) ?_
  refine va_newa (ty := .int) (a0 := (12002, .inl (fun _ => 0))) hx hb (hts _ (bP 7 rfl)) rfl hK hP hD hS hA (fun _ => rfl) (by decide) (by decide) (by decide) (Nat.le_of_ble_eq_true rfl) (Nat.le_of_ble_eq_true rfl) dX13_init_427 (fun q8 c8 H hK hP hD hS => ?_)
  have hP : va_P (dC, dI) vwCl [(h0, .inr (13, fs)), (qh, .inr (12, fsH)), (q2, .inl (c2, 6000, .inl (fun _ => 0))), (q7, .inl (c7, 12002, .inl (fun _ => 0))), (q8, .inl (c8, 12002, .inl (fun _ => 0)))] H := hP
  have hD : va_D A [(h0, .inr (13, fs)), (qh, .inr (12, fsH)), (q2, .inl (c2, 6000, .inl (fun _ => 0))), (q7, .inl (c7, 12002, .inl (fun _ => 0))), (q8, .inl (c8, 12002, .inl (fun _ => 0)))] := hD
  have hK : va_K (dC, dI) vwCl [(c2, .int), (c7, .int), (c8, .int)] s := hK
  refine k_putF ((8, .ref q8) :: (7, .ref q7) :: (2, .ref q2) :: (0, .ref qh) :: [(3, .int 0), (110, .int 0), (123, .int 0)]) hts iX13 tyX13 tyX13_ok nmX13 hx hb hown hin2 hK rfl hJ hP hD hS 8 (by decide) (by decide) rfl (hts _ (bP 13 rfl)) rfl (ty := .array .int) (by decide +kernel) (v := .ref q8) rfl rfl dX13_init_429 (fun f h => kJ_add h _ _ rfl (by decide)) (fun H locs fs hJ hP hD hS => ?_)
  refine lv_aload_n hx hb dX13_init_432 rfl (lv_at hl 0 rfl) ?_
  refine lv_sipush (v := 12002) hx hb dX13_init_433 (by decide) ?_
  refine va_newa (ty := .int) (a0 := (12002, .inl (fun _ => 0))) hx hb (hts _ (bP 7 rfl)) rfl hK hP hD hS hA (fun _ => rfl) (by decide) (by decide) (by decide) (Nat.le_of_ble_eq_true rfl) (Nat.le_of_ble_eq_true rfl) dX13_init_436 (fun q9 c9 H hK hP hD hS => ?_)
  have hP : va_P (dC, dI) vwCl [(h0, .inr (13, fs)), (qh, .inr (12, fsH)), (q2, .inl (c2, 6000, .inl (fun _ => 0))), (q7, .inl (c7, 12002, .inl (fun _ => 0))), (q8, .inl (c8, 12002, .inl (fun _ => 0))), (q9, .inl (c9, 12002, .inl (fun _ => 0)))] H := hP
  have hD : va_D A [(h0, .inr (13, fs)), (qh, .inr (12, fsH)), (q2, .inl (c2, 6000, .inl (fun _ => 0))), (q7, .inl (c7, 12002, .inl (fun _ => 0))), (q8, .inl (c8, 12002, .inl (fun _ => 0))), (q9, .inl (c9, 12002, .inl (fun _ => 0)))] := hD
  have hK : va_K (dC, dI) vwCl [(c2, .int), (c7, .int), (c8, .int), (c9, .int)] s := hK
  refine k_putF ((9, .ref q9) :: (8, .ref q8) :: (7, .ref q7) :: (2, .ref q2) :: (0, .ref qh) :: [(3, .int 0), (110, .int 0), (123, .int 0)]) hts iX13 tyX13 tyX13_ok nmX13 hx hb hown hin2 hK rfl hJ hP hD hS 9 (by decide) (by decide) rfl (hts _ (bP 14 rfl)) rfl (ty := .array .int) (by decide +kernel) (v := .ref q9) rfl rfl dX13_init_438 (fun f h => kJ_add h _ _ rfl (by decide)) (fun H locs fs hJ hP hD hS => ?_)
  refine lv_aload_n hx hb dX13_init_441 rfl (lv_at hl 0 rfl) ?_
  refine lv_sipush (v := 12002) hx hb dX13_init_442 (by decide) ?_
  refine va_newa (ty := .int) (a0 := (12002, .inl (fun _ => 0))) hx hb (hts _ (bP 7 rfl)) rfl hK hP hD hS hA (fun _ => rfl) (by decide) (by decide) (by decide) (Nat.le_of_ble_eq_true rfl) (Nat.le_of_ble_eq_true rfl) dX13_init_445 (fun q10 c10 H hK hP hD hS => ?_)
  have hP : va_P (dC, dI) vwCl [(h0, .inr (13, fs)), (qh, .inr (12, fsH)), (q2, .inl (c2, 6000, .inl (fun _ => 0))), (q7, .inl (c7, 12002, .inl (fun _ => 0))), (q8, .inl (c8, 12002, .inl (fun _ => 0))), (q9, .inl (c9, 12002, .inl (fun _ => 0))), (q10, .inl (c10, 12002, .inl (fun _ => 0)))] H := hP
  have hD : va_D A [(h0, .inr (13, fs)), (qh, .inr (12, fsH)), (q2, .inl (c2, 6000, .inl (fun _ => 0))), (q7, .inl (c7, 12002, .inl (fun _ => 0))), (q8, .inl (c8, 12002, .inl (fun _ => 0))), (q9, .inl (c9, 12002, .inl (fun _ => 0))), (q10, .inl (c10, 12002, .inl (fun _ => 0)))] := hD
  have hK : va_K (dC, dI) vwCl [(c2, .int), (c7, .int), (c8, .int), (c9, .int), (c10, .int)] s := hK
  refine k_putF ((10, .ref q10) :: (9, .ref q9) :: (8, .ref q8) :: (7, .ref q7) :: (2, .ref q2) :: (0, .ref qh) :: [(3, .int 0), (110, .int 0), (123, .int 0)]) hts iX13 tyX13 tyX13_ok nmX13 hx hb hown hin2 hK rfl hJ hP hD hS 10 (by decide) (by decide) rfl (hts _ (bP 15 rfl)) rfl (ty := .array .int) (by decide +kernel) (v := .ref q10) rfl rfl dX13_init_447 (fun f h => kJ_add h _ _ rfl (by decide)) (fun H locs fs hJ hP hD hS => ?_)
  have hJ : kJ 180 (mL qh q2 q7 q8 q9 q10) fs := kJ_sub hJ (by intro x hx; simp only [mL, List.mem_cons, List.not_mem_nil, or_false] at hx ⊢; rcases hx with h | h | h | h | h | h | h | h | h <;> simp [h])
  refine W.widen (k := 8) (n := 54078) (Nat.le_of_ble_eq_true rfl) (Nat.le_of_ble_eq_true rfl) ?_
  refine mi_1 hx hb hts hown hin2 (aO.use hao2) rfl hl hK hJ hP hD hS (Nat.le_of_ble_eq_true rfl) (Nat.le_of_ble_eq_true rfl) (fun H locs fs hJ hP hD hS => ?_)
  refine mi_2 hx hb hts hown hin2 (aO.use hao2) rfl hl hK hJ hP hD hS (Nat.le_of_ble_eq_true rfl) (Nat.le_of_ble_eq_true rfl) (fun H locs fs hJ hP hD hS => ?_)
  refine mi_3 hx hb hts hown hin2 (aO.use hao2) rfl hl hK hJ hP hD hS (Nat.le_of_ble_eq_true rfl) (Nat.le_of_ble_eq_true rfl) (fun H locs fs hJ hP hD hS => ?_)
  refine mi_4 hx hb hts hown hin2 (aO.use hao2) rfl hl hK hJ hP hD hS (Nat.le_of_ble_eq_true rfl) (Nat.le_of_ble_eq_true rfl) (fun H locs fs hJ hP hD hS => ?_)
  refine mi_5 hx hb hts hown hin2 (aO.use hao2) rfl hl hK hJ hP hD hS (Nat.le_of_ble_eq_true rfl) (Nat.le_of_ble_eq_true rfl) (fun H locs fs hJ hP hD hS => ?_)
  refine mi_6 hx hb hts hown hin2 (aO.use hao2) rfl hl hK hJ hP hD hS (Nat.le_of_ble_eq_true rfl) (Nat.le_of_ble_eq_true rfl) (fun H locs fs hJ hP hD hS => ?_)
  refine W.widen (k := 100) (n := 848008) (Nat.le_of_ble_eq_true rfl) (Nat.le_of_ble_eq_true rfl) ?_
  exact W.vret hx hb hr (fun t2 ht2 hW2 => ⟨⟨(fs, fsH, qh, q2, q7, q8, q9, q10, c2, c7, c8, c9, c10), rfl, ⟨hJ, hJH⟩, by rw [ht2]; exact hP, va_K.moved hW2.alike hK, hD⟩, hS.F ht2⟩) hS.2.2 dX13_init_1255
end
section
/-! Own rows for the walker -/
theorem kJ_put {N : Nat} {L : List (Nat × Value)} {fs : List Value} (h : kJ N L fs) (k : Nat) (v : Value) (hl : k < N) : kJ N ((k, v) :: L.filter (fun x => x.1 != k)) (fs.set k v) :=
  kJ_up h k v _ (fun x hx => by
    rcases List.mem_cons.mp hx with e | hx
    · exact Or.inl e
    · obtain ⟨h1, h2⟩ := List.mem_filter.mp hx
      exact Or.inr ⟨h1, by simpa using h2⟩) hl
section KB
variable {p : Program} {l : Launch} {e : Env} {R : Room} {s : State} {m : MethodId} {args : Array Value} {below : List Frame} {meth : Method} {c : Code} {H : Heap} {locs : List Loc} {cells slots : Nat} {Q : State → Prop}
variable {cc : ByteArray} {pc : Nat} {ls : Array Slot} {rest : List Value} {D : va_G} {cl : List vw_C} {A : Nat → Prop} {a : Nat} {tys : List (ClassId × FieldType)} {ws : va_W} {H0 : Heap}
theorem k_i {x v : Int32} (h : x = v) (k : W p l e R s m args below meth c H locs cells slots Q (F0 m pc ls (.int v :: rest))) : W p l e R s m args below meth c H locs cells slots Q (F0 m pc ls (.int x :: rest)) := by
  rw [h]; exact k
theorem kq_put {N0 : Nat} {L : List (Nat × Value)} (L2 : List (Nat × Value)) {fs : List Value} {ci : Nat} {own C : String} {T : u_T} {N index : Nat} {Ts : List Cond} (hts : ∀ w ∈ Ts, w.before args s = true) (hin : ∀ w ∈ u_ws C T N, w ∈ Ts) (ty0 : Nat → FieldType) (hty : ∀ k, k < N → parseFieldDescriptor (T k).2.2.1 = some (ty0 k)) (hnm : ∀ a, a < N → ∀ b, b < N → a ≠ b → (T a).2.1 ≠ (T b).2.1)
    (hexec : p.tables.exec = Jvm.exec) (hb : c.code = cc) (hown : s.vm.findClass own = some m.cls) (hK : va_K D cl tys s) (hP : va_P D cl ws H) (hD : va_D A ws) (hS : va_S A H0 H locs) (q0 : Nat) (he : ws[q0]? = some (a, .inr (ci, fs))) (hc : cl[ci]? = some (C, T, N)) (hJ : kJ N0 L fs)
    (k : Nat) (hk : k < N) (hkl : k < N0) (hlink : (Cond.fieldLink own index (T k).1 (T k).2.1 (T k).2.2.1).before args s = true) (hfin : (T k).2.2.2 = false) {ty : FieldType} (hd : parseFieldDescriptor (T k).2.2.1 = some ty) {v : Value} (hn : narrow ty v = v) (hfit : fits ty v = true) (hdg2 : decode cc pc = .ok (.putfield index, 3)) (hJ2 : ∀ f, kJ N0 L f → kJ N0 L2 (f.set k v))
    (kk : ∀ (H1 : Heap) (locs1 : List Loc) (fs1 : List Value), kJ N0 L2 fs1 → va_P D cl (ws.set q0 (a, .inr (ci, fs1))) H1 → va_D A (ws.set q0 (a, .inr (ci, fs1))) → va_S A H0 H1 locs1 → W p l e R s m args below meth c H1 locs1 cells slots Q (F0 m (pc + 3) ls rest)) : W p l e R s m args below meth c H locs cells slots Q (F0 m pc ls (v :: .ref a :: rest)) := by
  refine va_put (D := D) (ci := ci) (v := v) (ty := ty) (C := C) (T := T) (N := N) hexec hb hts hin ty0 hty hnm hown hK hP hD hS q0 he hc k hk hlink (fun _ h9 => h9) hfin hd hn hfit (by rw [hJ.1]; exact hkl) hdg2 (fun H2 locs2 hP hD hS => ?_)
  exact kk H2 locs2 (fs.set k v) (hJ2 fs hJ) hP hD hS
theorem kq_iast (hexec : p.tables.exec = Jvm.exec) (hb : c.code = cc) (hK : va_K D cl tys s) (hP : va_P D cl ws H) (hD : va_D A ws) (hS : va_S A H0 H locs) (q0 t0 : Nat) {cA : ClassId} {n : Nat} {f : Nat → Int32} (ha : ws[q0]? = some (a, .inl (cA, n, .inl f))) (ht : tys[t0]? = some (cA, .int)) {i : Int32} {x : Int32} (hin : vp_in i n) (hdg : decode cc pc = .ok (.iastore, 1))
    (kk : ∀ (H1 : Heap) (locs1 : List Loc) (f1 : Nat → Int32), f1 = upd f i.toNatClampNeg x → va_P D cl (ws.set q0 (a, .inl (cA, n, .inl f1))) H1 → va_D A (ws.set q0 (a, .inl (cA, n, .inl f1))) → va_S A H0 H1 locs1 → W p l e R s m args below meth c H1 locs1 cells slots Q (F0 m (pc + 1) ls rest)) : W p l e R s m args below meth c H locs cells slots Q (F0 m pc ls (.int x :: .int i :: .ref a :: rest)) :=
  va_iast hexec hb hK hP hD hS q0 t0 ha ht hin hdg (fun H1 locs1 h1 h2 h3 => kk H1 locs1 _ rfl h1 h2 h3)
theorem kq_bast (hexec : p.tables.exec = Jvm.exec) (hb : c.code = cc) (hK : va_K D cl tys s) (hP : va_P D cl ws H) (hD : va_D A ws) (hS : va_S A H0 H locs) (q0 t0 : Nat) {cA : ClassId} {n : Nat} {f : Nat → Int32} (ha : ws[q0]? = some (a, .inl (cA, n, .inl f))) (ht : tys[t0]? = some (cA, .byte)) {i : Int32} {x : Int32} (hin : vp_in i n) (hdg : decode cc pc = .ok (.bastore, 1))
    (kk : ∀ (H1 : Heap) (locs1 : List Loc) (f1 : Nat → Int32), f1 = upd f i.toNatClampNeg (vp_nar .byte x) → va_P D cl (ws.set q0 (a, .inl (cA, n, .inl f1))) H1 → va_D A (ws.set q0 (a, .inl (cA, n, .inl f1))) → va_S A H0 H1 locs1 → W p l e R s m args below meth c H1 locs1 cells slots Q (F0 m (pc + 1) ls rest)) : W p l e R s m args below meth c H locs cells slots Q (F0 m pc ls (.int x :: .int i :: .ref a :: rest)) :=
  va_bast hexec hb hK hP hD hS q0 t0 ha ht hin hdg (fun H1 locs1 h1 h2 h3 => kk H1 locs1 _ rfl h1 h2 h3)
end KB
theorem gV {k0 : Cond} {own C : String} {idx : Nat} {y : MethodName} (w : Cond) (i1 i2 i3 i4 i5 : Nat) (h1 : wB[i1]? = some (.methodLink own idx y)) (h2 : wB[i2]? = some (.instanceMethod y)) (h3 : wB[i3]? = some (.selects C y y)) (h4 : wB[i4]? = some (.initialized C)) (h5 : wB[i5]? = some w) : GoodIn (k0 :: wP) (wsV own idx C y (w :: wP)) := by
  have hg : ∀ {i : Nat} {x : Cond}, wB[i]? = some x → x ∈ k0 :: wP ∧ _ := fun {i x} h => ⟨bP i h, good_of_word (wP_good _ (List.mem_append_left _ (List.mem_of_getElem? h)))⟩
  intro x hx
  rcases List.mem_append.mp hx with h | h
  · simp only [List.mem_cons, List.not_mem_nil, or_false] at h
    rcases h with e | e | e | e <;> subst e
    · exact hg h1
    · exact hg h2
    · exact hg h3
    · exact hg h4
  · exact gP w i5 h5 x h
theorem i_eq0 {x : Int32} (h1 : ¬ x < 0) (h2 : x ≤ 0) : x = 0 := by
  have a1 : ¬ x.toInt < (0 : Int32).toInt := fun h => h1 (Int32.lt_iff_toInt_lt.mpr h)
  have a2 := Int32.le_iff_toInt_le.mp h2
  have e : (0 : Int32).toInt = 0 := rfl
  rw [e] at a1 a2
  exact Int32.toInt_inj.mp (by rw [e]; omega)
theorem i5 {x : Int32} (h1 : ¬ x < 0) (h2 : x < 5) : x = 0 ∨ x = 1 ∨ x = 2 ∨ x = 3 ∨ x = 4 := by
  have a1 : ¬ x.toInt < (0 : Int32).toInt := fun h => h1 (Int32.lt_iff_toInt_lt.mpr h)
  have a2 := Int32.lt_iff_toInt_lt.mp h2
  have e : (0 : Int32).toInt = 0 := rfl
  have e5 : (5 : Int32).toInt = 5 := rfl
  rw [e] at a1
  rw [e5] at a2
  have : x.toInt = 0 ∨ x.toInt = 1 ∨ x.toInt = 2 ∨ x.toInt = 3 ∨ x.toInt = 4 := by omega
  rcases this with h | h | h | h | h
  · exact Or.inl (Int32.toInt_inj.mp h)
  · exact Or.inr (Or.inl (Int32.toInt_inj.mp h))
  · exact Or.inr (Or.inr (Or.inl (Int32.toInt_inj.mp h)))
  · exact Or.inr (Or.inr (Or.inr (Or.inl (Int32.toInt_inj.mp h))))
  · exact Or.inr (Or.inr (Or.inr (Or.inr (Int32.toInt_inj.mp h))))
/-- what the two sides answer on a fresh object -/
def bk (x : Int32) : Int32 := if x = 0 then 0 else -1
theorem bk1 {x : Int32} (h : x < 0) : (-1 : Int32) = bk x := (if_neg (fun e => by subst e; exact absurd h (by decide))).symm
theorem bk2 {x z : Int32} (h1 : ¬ x < 0) (h2 : x ≤ 0) (e : z = 0 - x) : z = bk x := by
  have := i_eq0 h1 h2
  subst this
  rw [e]
  rfl
theorem bk3 {x : Int32} (h : ¬ x ≤ 0) : (-1 : Int32) = bk x := (if_neg (fun e => by subst e; exact absurd (by decide) h)).symm
def cnt (x : Int32) : Int32 := if x < 0 ∨ 13 < x then -1 else 0
theorem cnt1 {x : Int32} (h : x < 0) : (-1 : Int32) = cnt x := (if_pos (Or.inl h)).symm
theorem cnt2 {x : Int32} (h : 13 < x) : (-1 : Int32) = cnt x := (if_pos (Or.inr h)).symm
theorem cnt3 {x : Int32} (h1 : ¬ x < 5) (h2 : ¬ 13 < x) : (0 : Int32) = cnt x := by
  refine (if_neg ?_).symm
  rintro (h | h)
  · exact h1 (Int32.lt_trans h (by decide))
  · exact h2 h
/-- which exception run(n) is, on a fresh object -/
def rc (x : Int32) : Int32 := if x < 0 ∨ 2000 < x then 1 else 2
theorem rc1 {x : Int32} (h : x < 0) : rc x = 1 := if_pos (Or.inl h)
theorem rc2 {x : Int32} (h : ¬ x ≤ 2000) : rc x = 1 := if_pos (Or.inr (Int32.not_le.mp h))
theorem rc3 {x : Int32} (h1 : ¬ x < 0) (h2 : x ≤ 2000) : rc x = 2 := if_neg (fun h => h.elim h1 (fun h => absurd h2 (Int32.not_le.mpr h)))
theorem k_lo {x : Int32} (h : x < 0) : x.toInt < (0 : Int) := Int32.lt_iff_toInt_lt.mp h
theorem k_hi {x : Int32} (h : 13 < x) : (13 : Int) < x.toInt := Int32.lt_iff_toInt_lt.mp h
section KC
variable {p : Program} {l : Launch} {e : Env} {R : Room} {s : State} {m : MethodId} {args : Array Value} {below : List Frame} {meth : Method} {c : Code} {H : Heap} {locs : List Loc} {cells slots : Nat} {Q : State → Prop}
variable {cc : ByteArray} {pc : Nat} {ls : Array Slot} {rest : List Value} {D : va_G} {cl : List vw_C} {A : Nat → Prop} {a : Nat} {tys : List (ClassId × FieldType)} {ws : va_W} {H0 : Heap}
theorem kq_putF {N0 : Nat} {L : List (Nat × Value)} (L2 : List (Nat × Value)) {fs : List Value} {ci : Nat} {C : String} {T : u_T} {N index : Nat} {Ts : List Cond} (hts : ∀ w ∈ Ts, w.before args s = true) (hin : ∀ w ∈ u_ws C T N, w ∈ Ts) (ty0 : Nat → FieldType) (hty : ∀ k, k < N → parseFieldDescriptor (T k).2.2.1 = some (ty0 k)) (hnm : ∀ a, a < N → ∀ b, b < N → a ≠ b → (T a).2.1 ≠ (T b).2.1)
    (hexec : p.tables.exec = Jvm.exec) (hb : c.code = cc) (hown : s.vm.findClass C = some m.cls) (hin2 : meth.name = "<init>") (hK : va_K D cl tys s) (hP : va_P D cl ws H) (hD : va_D A ws) (hS : va_S A H0 H locs) (q0 : Nat) (he : ws[q0]? = some (a, .inr (ci, fs))) (hc : cl[ci]? = some (C, T, N)) (hJ : kJ N0 L fs)
    (k : Nat) (hk : k < N) (hkl : k < N0) (hdecl : (T k).1 = C) (hlink : (Cond.fieldLink C index C (T k).2.1 (T k).2.2.1).before args s = true) (hfin : (T k).2.2.2 = true) {ty : FieldType} (hd : parseFieldDescriptor (T k).2.2.1 = some ty) {v : Value} (hn : narrow ty v = v) (hfit : fits ty v = true) (hdg2 : decode cc pc = .ok (.putfield index, 3)) (hJ2 : ∀ f, kJ N0 L f → kJ N0 L2 (f.set k v))
    (kk : ∀ (H1 : Heap) (locs1 : List Loc) (fs1 : List Value), kJ N0 L2 fs1 → va_P D cl (ws.set q0 (a, .inr (ci, fs1))) H1 → va_D A (ws.set q0 (a, .inr (ci, fs1))) → va_S A H0 H1 locs1 → W p l e R s m args below meth c H1 locs1 cells slots Q (F0 m (pc + 3) ls rest)) : W p l e R s m args below meth c H locs cells slots Q (F0 m pc ls (v :: .ref a :: rest)) := by
  refine va_putF (D := D) (ci := ci) (v := v) (ty := ty) (C := C) (T := T) (N := N) hexec hb hts hin ty0 hty hnm hown hK hP hD hS q0 he hc k hk hlink (fun _ h9 => by rw [hdecl] at h9; exact h9) hfin hin2 hdecl hd hn hfit (by rw [hJ.1]; exact hkl) hdg2 (fun H2 locs2 hP hD hS => ?_)
  exact kk H2 locs2 (fs.set k v) (hJ2 fs hJ) hP hD hS
end KC
theorem va_up_s {α : Type} {f : Nat → α} {k : Nat} {v : α} : va_up f k v k = v := by simp [va_up]
theorem va_up_n {α : Type} {f : Nat → α} {k j : Nat} {v : α} (h : j ≠ k) : va_up f k v j = f j := by simp [va_up, h]
theorem kq_aald {p : Program} {l : Launch} {e : Env} {R : Room} {s : State} {m : MethodId} {args : Array Value} {below : List Frame} {meth : Method} {c : Code} {H : Heap} {locs : List Loc} {cells slots : Nat} {Q : State → Prop} {cc : ByteArray} {pc : Nat} {ls : Array Slot} {rest : List Value} {D : va_G} {cl : List vw_C} {a : Nat} {tys : List (ClassId × FieldType)} {ws : va_W}
    (hexec : p.tables.exec = Jvm.exec) (hb : c.code = cc) (hK : va_K D cl tys s) (hP : va_P D cl ws H) (q0 t0 : Nat) {cA : ClassId} {C : String} {n v : Nat} {f : Nat → Option Nat} (ha : ws[q0]? = some (a, .inl (cA, n, .inr (.inr (.inr (.inr f)))))) (ht : tys[t0]? = some (cA, .object C)) {i : Int32} (hv : f i.toNatClampNeg = some v) (hin : vp_in i n) (hdg : decode cc pc = .ok (.aaload, 1))
    (kk : W p l e R s m args below meth c H locs cells slots Q (F0 m (pc + 1) ls (.ref v :: rest))) : W p l e R s m args below meth c H locs cells slots Q (F0 m pc ls (.int i :: .ref a :: rest)) :=
  va_aldq hexec hb hK hP q0 t0 ha ht hin hdg (by rw [hv]; exact kk)
end
section
/-! The reference on a fresh object: an empty tape, no program, no run -/
theorem dX13_key_0 : decode cX13_key 0 = .ok (.aload_n 0, 1) := by decide +kernel
theorem dX13_key_1 : decode cX13_key 1 = .ok (.iconst 0, 1) := by decide +kernel
theorem dX13_key_2 : decode cX13_key 2 = .ok (.putfield 451, 3) := by decide +kernel
theorem dX13_key_5 : decode cX13_key 5 = .ok (.aload_n 0, 1) := by decide +kernel
theorem dX13_key_6 : decode cX13_key 6 = .ok (.getfield 1122, 3) := by decide +kernel
theorem dX13_key_9 : decode cX13_key 9 = .ok (.ifCond .eq 13, 3) := by decide +kernel
theorem dX13_key_22 : decode cX13_key 22 = .ok (.iconst 0, 1) := by decide +kernel
theorem dX13_key_23 : decode cX13_key 23 = .ok (.ireturn, 1) := by decide +kernel
theorem dX13_output_0 : decode cX13_output 0 = .ok (.aload_n 0, 1) := by decide +kernel
theorem dX13_output_1 : decode cX13_output 1 = .ok (.iconst 0, 1) := by decide +kernel
theorem dX13_output_2 : decode cX13_output 2 = .ok (.putfield 451, 3) := by decide +kernel
theorem dX13_output_5 : decode cX13_output 5 = .ok (.aload_n 0, 1) := by decide +kernel
theorem dX13_output_6 : decode cX13_output 6 = .ok (.getfield 1122, 3) := by decide +kernel
theorem dX13_output_9 : decode cX13_output 9 = .ok (.ifCond .eq 15, 3) := by decide +kernel
theorem dX13_output_24 : decode cX13_output 24 = .ok (.iconst (-1), 1) := by decide +kernel
theorem dX13_output_25 : decode cX13_output 25 = .ok (.goto 9, 3) := by decide +kernel
theorem dX13_output_34 : decode cX13_output 34 = .ok (.ireturn, 1) := by decide +kernel
theorem dX13_cell_0 : decode cX13_cell 0 = .ok (.aload_n 0, 1) := by decide +kernel
theorem dX13_cell_1 : decode cX13_cell 1 = .ok (.iconst 0, 1) := by decide +kernel
theorem dX13_cell_2 : decode cX13_cell 2 = .ok (.putfield 451, 3) := by decide +kernel
theorem dX13_cell_5 : decode cX13_cell 5 = .ok (.aload_n 0, 1) := by decide +kernel
theorem dX13_cell_6 : decode cX13_cell 6 = .ok (.getfield 1122, 3) := by decide +kernel
theorem dX13_cell_9 : decode cX13_cell 9 = .ok (.ifCond .eq 14, 3) := by decide +kernel
theorem dX13_cell_23 : decode cX13_cell 23 = .ok (.iconst 0, 1) := by decide +kernel
theorem dX13_cell_24 : decode cX13_cell 24 = .ok (.ireturn, 1) := by decide +kernel
theorem dX13_meeting_0 : decode cX13_meeting 0 = .ok (.aload_n 0, 1) := by decide +kernel
theorem dX13_meeting_1 : decode cX13_meeting 1 = .ok (.iconst 0, 1) := by decide +kernel
theorem dX13_meeting_2 : decode cX13_meeting 2 = .ok (.putfield 451, 3) := by decide +kernel
theorem dX13_meeting_5 : decode cX13_meeting 5 = .ok (.aload_n 0, 1) := by decide +kernel
theorem dX13_meeting_6 : decode cX13_meeting 6 = .ok (.getfield 1122, 3) := by decide +kernel
theorem dX13_meeting_9 : decode cX13_meeting 9 = .ok (.ifCond .eq 31, 3) := by decide +kernel
theorem dX13_meeting_40 : decode cX13_meeting 40 = .ok (.iconst (-1), 1) := by decide +kernel
theorem dX13_meeting_41 : decode cX13_meeting 41 = .ok (.ireturn, 1) := by decide +kernel
theorem dX13_clashes_0 : decode cX13_clashes 0 = .ok (.aload_n 0, 1) := by decide +kernel
theorem dX13_clashes_1 : decode cX13_clashes 1 = .ok (.iconst 0, 1) := by decide +kernel
theorem dX13_clashes_2 : decode cX13_clashes 2 = .ok (.putfield 451, 3) := by decide +kernel
theorem dX13_clashes_5 : decode cX13_clashes 5 = .ok (.aload_n 0, 1) := by decide +kernel
theorem dX13_clashes_6 : decode cX13_clashes 6 = .ok (.getfield 1122, 3) := by decide +kernel
theorem dX13_clashes_9 : decode cX13_clashes 9 = .ok (.ifCond .eq 10, 3) := by decide +kernel
theorem dX13_clashes_19 : decode cX13_clashes 19 = .ok (.iconst 0, 1) := by decide +kernel
theorem dX13_clashes_20 : decode cX13_clashes 20 = .ok (.ireturn, 1) := by decide +kernel
set_option maxHeartbeats 4000000 in
set_option maxRecDepth 100000 in
/-- key -/
theorem c_M_key (l : Launch) (dC : Nat → ClassId) (dI : Nat → Nat → Nat) (h0 sz : Nat) (fs : List Value) (a1 : Int32) : Met l yX13_key (.code yX13_key cX13_key 4 (some .boolean) :: wP) ({ frames := 0, cells := 0, slots := 0, locals := 0 }) (va_Pc [.ref h0, .int a1] (fun U => U.heap.size = sz ∧ kJ 180 [(3, .int 0), (110, .int 0), (123, .int 0)] fs ∧ va_P (dC, dI) vwCl [(h0, .inr (13, fs))] U.heap ∧ va_K (dC, dI) vwCl [] U ∧ va_D (fun _ => True) [(h0, .inr (13, fs))])) (va_Qi (fun r (_ : Unit) => r = 0) (fun (_ : Unit) (_ : State) => True) (va_A [(h0, .inr (13, fs))] sz)) 0 0 (va_A [(h0, .inr (13, fs))] sz) := by
  refine Met.ofW (cc := cX13_key) (maxL := 4) (ret := (some .boolean)) (by decide) rfl ?_
  intro p e s m args below meth c s₁ B hml hv
  obtain ⟨rfl, hsz, hJ, hP, hK, hD0⟩ := hv
  have hx := B.exec
  have hb := B.bytes
  have hr := B.returns
  have hts := atoms_spec (ws := .code yX13_key cX13_key 4 (some .boolean) :: wP) B.pre
  have hown : s.vm.findClass RX13 = some m.cls := findClass_of_methodNamed B.named
  subst hsz
  have hD := hD0.self (sz := s.heap.size)
  generalize hAe : va_A [(h0, .inr (13, fs))] s.heap.size = A at hD ⊢
  have hA : ∀ q : Nat, s.heap.size ≤ q → A q := fun q h => by rw [← hAe]; exact Or.inr h
  have hS : va_S A s.heap s.heap [] := va_S.rf
  have hl := lv_entry ([.ref h0, .int a1]) (n := 4) (Nat.le_of_ble_eq_true rfl)
  rw [lg_entry_eq]
  generalize (lg_sl ([.ref h0, .int a1]) ++ List.replicate (4 - (lg_sl ([.ref h0, .int a1])).length) Slot.unset).toArray = ls at hl ⊢
  obtain ⟨H, hHe⟩ : ∃ H, H = s.heap := ⟨_, rfl⟩
  rw [← hHe] at hP ⊢
  have hS : va_S A s.heap H [] := by rw [hHe]; exact hS
  have hl : lv_has ls 4 [(0, .ref h0), (1, .int a1)] := hl
  refine lv_aload_n hx hb dX13_key_0 rfl (lv_at hl 0 rfl) ?_
  refine lv_iconst (v := 0) hx hb dX13_key_1 (by decide) ?_
  refine kq_put [(1, .int 0), (3, .int 0), (110, .int 0), (123, .int 0)] hts iX13 tyX13 tyX13_ok nmX13 hx hb hown hK hP hD hS 0 rfl rfl hJ 1 (by decide) (by decide) (hts _ (bP 135 rfl)) rfl (ty := .int) (by decide +kernel) (v := .int 0) rfl rfl dX13_key_2 (fun f h => kJ_put h _ _ (by decide)) (fun H locs fs hJ hP hD hS => ?_)
  have hP : va_P (dC, dI) vwCl [(h0, .inr (13, fs))] H := hP
  have hD : va_D A [(h0, .inr (13, fs))] := hD
  refine lv_aload_n hx hb dX13_key_5 rfl (lv_at hl 0 rfl) ?_
  refine va_get (D := (dC, dI)) (ci := 13) (v := .int 0) (C := RX13) (T := TX13) (N := 180) hx hb hts iX13 hown hK hP 0 rfl rfl 123 (by decide) (hts _ (bP 136 rfl)) (fun _ h9 => h9) (kJ_at hJ 3 rfl) dX13_key_6 ?_
  refine lv_if_eq (tgt := 22) hx hb dX13_key_9 (by decide) (fun _ => ?_) (fun h => absurd h (by decide))
  refine lv_iconst (v := 0) hx hb dX13_key_22 (by decide) ?_
  exact W.zret (v := 0) hx hb hr (by decide) (fun t ht hW => ⟨⟨0, (), rfl, rfl, trivial⟩, hS.F ht⟩) hS.2.2 dX13_key_23
set_option maxHeartbeats 4000000 in
set_option maxRecDepth 100000 in
/-- output -/
theorem c_M_output (l : Launch) (dC : Nat → ClassId) (dI : Nat → Nat → Nat) (h0 sz : Nat) (fs : List Value) (a1 : Int32) : Met l yX13_output (.code yX13_output cX13_output 2 (some .int) :: wP) ({ frames := 0, cells := 0, slots := 0, locals := 0 }) (va_Pc [.ref h0, .int a1] (fun U => U.heap.size = sz ∧ kJ 180 [(3, .int 0), (110, .int 0), (123, .int 0)] fs ∧ va_P (dC, dI) vwCl [(h0, .inr (13, fs))] U.heap ∧ va_K (dC, dI) vwCl [] U ∧ va_D (fun _ => True) [(h0, .inr (13, fs))])) (va_Qi (fun r (_ : Unit) => r = -1) (fun (_ : Unit) (_ : State) => True) (va_A [(h0, .inr (13, fs))] sz)) 0 0 (va_A [(h0, .inr (13, fs))] sz) := by
  refine Met.ofW (cc := cX13_output) (maxL := 2) (ret := (some .int)) (by decide) rfl ?_
  intro p e s m args below meth c s₁ B hml hv
  obtain ⟨rfl, hsz, hJ, hP, hK, hD0⟩ := hv
  have hx := B.exec
  have hb := B.bytes
  have hr := B.returns
  have hts := atoms_spec (ws := .code yX13_output cX13_output 2 (some .int) :: wP) B.pre
  have hown : s.vm.findClass RX13 = some m.cls := findClass_of_methodNamed B.named
  subst hsz
  have hD := hD0.self (sz := s.heap.size)
  generalize hAe : va_A [(h0, .inr (13, fs))] s.heap.size = A at hD ⊢
  have hA : ∀ q : Nat, s.heap.size ≤ q → A q := fun q h => by rw [← hAe]; exact Or.inr h
  have hS : va_S A s.heap s.heap [] := va_S.rf
  have hl := lv_entry ([.ref h0, .int a1]) (n := 2) (Nat.le_of_ble_eq_true rfl)
  rw [lg_entry_eq]
  generalize (lg_sl ([.ref h0, .int a1]) ++ List.replicate (2 - (lg_sl ([.ref h0, .int a1])).length) Slot.unset).toArray = ls at hl ⊢
  obtain ⟨H, hHe⟩ : ∃ H, H = s.heap := ⟨_, rfl⟩
  rw [← hHe] at hP ⊢
  have hS : va_S A s.heap H [] := by rw [hHe]; exact hS
  have hl : lv_has ls 2 [(0, .ref h0), (1, .int a1)] := hl
  refine lv_aload_n hx hb dX13_output_0 rfl (lv_at hl 0 rfl) ?_
  refine lv_iconst (v := 0) hx hb dX13_output_1 (by decide) ?_
  refine kq_put [(1, .int 0), (3, .int 0), (110, .int 0), (123, .int 0)] hts iX13 tyX13 tyX13_ok nmX13 hx hb hown hK hP hD hS 0 rfl rfl hJ 1 (by decide) (by decide) (hts _ (bP 135 rfl)) rfl (ty := .int) (by decide +kernel) (v := .int 0) rfl rfl dX13_output_2 (fun f h => kJ_put h _ _ (by decide)) (fun H locs fs hJ hP hD hS => ?_)
  have hP : va_P (dC, dI) vwCl [(h0, .inr (13, fs))] H := hP
  have hD : va_D A [(h0, .inr (13, fs))] := hD
  refine lv_aload_n hx hb dX13_output_5 rfl (lv_at hl 0 rfl) ?_
  refine va_get (D := (dC, dI)) (ci := 13) (v := .int 0) (C := RX13) (T := TX13) (N := 180) hx hb hts iX13 hown hK hP 0 rfl rfl 123 (by decide) (hts _ (bP 136 rfl)) (fun _ h9 => h9) (kJ_at hJ 3 rfl) dX13_output_6 ?_
  refine lv_if_eq (tgt := 24) hx hb dX13_output_9 (by decide) (fun _ => ?_) (fun h => absurd h (by decide))
  refine lv_iconst (v := (-1)) hx hb dX13_output_24 (by decide) ?_
  refine lv_goto (tgt := 34) hx hb dX13_output_25 (by decide) ?_
  exact W.iret (v := (-1)) hx hb hr (fun t ht hW => ⟨⟨(-1), (), rfl, rfl, trivial⟩, hS.F ht⟩) hS.2.2 dX13_output_34
set_option maxHeartbeats 4000000 in
set_option maxRecDepth 100000 in
/-- cell -/
theorem c_M_cell (l : Launch) (dC : Nat → ClassId) (dI : Nat → Nat → Nat) (h0 sz : Nat) (fs : List Value) (a1 : Int32) : Met l yX13_cell (.code yX13_cell cX13_cell 7 (some .int) :: wP) ({ frames := 0, cells := 0, slots := 0, locals := 0 }) (va_Pc [.ref h0, .int a1] (fun U => U.heap.size = sz ∧ kJ 180 [(3, .int 0), (110, .int 0), (123, .int 0)] fs ∧ va_P (dC, dI) vwCl [(h0, .inr (13, fs))] U.heap ∧ va_K (dC, dI) vwCl [] U ∧ va_D (fun _ => True) [(h0, .inr (13, fs))])) (va_Qi (fun r (_ : Unit) => r = 0) (fun (_ : Unit) (_ : State) => True) (va_A [(h0, .inr (13, fs))] sz)) 0 0 (va_A [(h0, .inr (13, fs))] sz) := by
  refine Met.ofW (cc := cX13_cell) (maxL := 7) (ret := (some .int)) (by decide) rfl ?_
  intro p e s m args below meth c s₁ B hml hv
  obtain ⟨rfl, hsz, hJ, hP, hK, hD0⟩ := hv
  have hx := B.exec
  have hb := B.bytes
  have hr := B.returns
  have hts := atoms_spec (ws := .code yX13_cell cX13_cell 7 (some .int) :: wP) B.pre
  have hown : s.vm.findClass RX13 = some m.cls := findClass_of_methodNamed B.named
  subst hsz
  have hD := hD0.self (sz := s.heap.size)
  generalize hAe : va_A [(h0, .inr (13, fs))] s.heap.size = A at hD ⊢
  have hA : ∀ q : Nat, s.heap.size ≤ q → A q := fun q h => by rw [← hAe]; exact Or.inr h
  have hS : va_S A s.heap s.heap [] := va_S.rf
  have hl := lv_entry ([.ref h0, .int a1]) (n := 7) (Nat.le_of_ble_eq_true rfl)
  rw [lg_entry_eq]
  generalize (lg_sl ([.ref h0, .int a1]) ++ List.replicate (7 - (lg_sl ([.ref h0, .int a1])).length) Slot.unset).toArray = ls at hl ⊢
  obtain ⟨H, hHe⟩ : ∃ H, H = s.heap := ⟨_, rfl⟩
  rw [← hHe] at hP ⊢
  have hS : va_S A s.heap H [] := by rw [hHe]; exact hS
  have hl : lv_has ls 7 [(0, .ref h0), (1, .int a1)] := hl
  refine lv_aload_n hx hb dX13_cell_0 rfl (lv_at hl 0 rfl) ?_
  refine lv_iconst (v := 0) hx hb dX13_cell_1 (by decide) ?_
  refine kq_put [(1, .int 0), (3, .int 0), (110, .int 0), (123, .int 0)] hts iX13 tyX13 tyX13_ok nmX13 hx hb hown hK hP hD hS 0 rfl rfl hJ 1 (by decide) (by decide) (hts _ (bP 135 rfl)) rfl (ty := .int) (by decide +kernel) (v := .int 0) rfl rfl dX13_cell_2 (fun f h => kJ_put h _ _ (by decide)) (fun H locs fs hJ hP hD hS => ?_)
  have hP : va_P (dC, dI) vwCl [(h0, .inr (13, fs))] H := hP
  have hD : va_D A [(h0, .inr (13, fs))] := hD
  refine lv_aload_n hx hb dX13_cell_5 rfl (lv_at hl 0 rfl) ?_
  refine va_get (D := (dC, dI)) (ci := 13) (v := .int 0) (C := RX13) (T := TX13) (N := 180) hx hb hts iX13 hown hK hP 0 rfl rfl 123 (by decide) (hts _ (bP 136 rfl)) (fun _ h9 => h9) (kJ_at hJ 3 rfl) dX13_cell_6 ?_
  refine lv_if_eq (tgt := 23) hx hb dX13_cell_9 (by decide) (fun _ => ?_) (fun h => absurd h (by decide))
  refine lv_iconst (v := 0) hx hb dX13_cell_23 (by decide) ?_
  exact W.iret (v := 0) hx hb hr (fun t ht hW => ⟨⟨0, (), rfl, rfl, trivial⟩, hS.F ht⟩) hS.2.2 dX13_cell_24
set_option maxHeartbeats 4000000 in
set_option maxRecDepth 100000 in
/-- meeting -/
theorem c_M_meeting (l : Launch) (dC : Nat → ClassId) (dI : Nat → Nat → Nat) (h0 sz : Nat) (fs : List Value) (a1 : Int32) (a2 : Int32) : Met l yX13_meeting (.code yX13_meeting cX13_meeting 3 (some .int) :: wP) ({ frames := 0, cells := 0, slots := 0, locals := 0 }) (va_Pc [.ref h0, .int a1, .int a2] (fun U => U.heap.size = sz ∧ kJ 180 [(3, .int 0), (110, .int 0), (123, .int 0)] fs ∧ va_P (dC, dI) vwCl [(h0, .inr (13, fs))] U.heap ∧ va_K (dC, dI) vwCl [] U ∧ va_D (fun _ => True) [(h0, .inr (13, fs))])) (va_Qi (fun r (_ : Unit) => r = -1) (fun (_ : Unit) (_ : State) => True) (va_A [(h0, .inr (13, fs))] sz)) 0 0 (va_A [(h0, .inr (13, fs))] sz) := by
  refine Met.ofW (cc := cX13_meeting) (maxL := 3) (ret := (some .int)) (by decide) rfl ?_
  intro p e s m args below meth c s₁ B hml hv
  obtain ⟨rfl, hsz, hJ, hP, hK, hD0⟩ := hv
  have hx := B.exec
  have hb := B.bytes
  have hr := B.returns
  have hts := atoms_spec (ws := .code yX13_meeting cX13_meeting 3 (some .int) :: wP) B.pre
  have hown : s.vm.findClass RX13 = some m.cls := findClass_of_methodNamed B.named
  subst hsz
  have hD := hD0.self (sz := s.heap.size)
  generalize hAe : va_A [(h0, .inr (13, fs))] s.heap.size = A at hD ⊢
  have hA : ∀ q : Nat, s.heap.size ≤ q → A q := fun q h => by rw [← hAe]; exact Or.inr h
  have hS : va_S A s.heap s.heap [] := va_S.rf
  have hl := lv_entry ([.ref h0, .int a1, .int a2]) (n := 3) (Nat.le_of_ble_eq_true rfl)
  rw [lg_entry_eq]
  generalize (lg_sl ([.ref h0, .int a1, .int a2]) ++ List.replicate (3 - (lg_sl ([.ref h0, .int a1, .int a2])).length) Slot.unset).toArray = ls at hl ⊢
  obtain ⟨H, hHe⟩ : ∃ H, H = s.heap := ⟨_, rfl⟩
  rw [← hHe] at hP ⊢
  have hS : va_S A s.heap H [] := by rw [hHe]; exact hS
  have hl : lv_has ls 3 [(0, .ref h0), (1, .int a1), (2, .int a2)] := hl
  refine lv_aload_n hx hb dX13_meeting_0 rfl (lv_at hl 0 rfl) ?_
  refine lv_iconst (v := 0) hx hb dX13_meeting_1 (by decide) ?_
  refine kq_put [(1, .int 0), (3, .int 0), (110, .int 0), (123, .int 0)] hts iX13 tyX13 tyX13_ok nmX13 hx hb hown hK hP hD hS 0 rfl rfl hJ 1 (by decide) (by decide) (hts _ (bP 135 rfl)) rfl (ty := .int) (by decide +kernel) (v := .int 0) rfl rfl dX13_meeting_2 (fun f h => kJ_put h _ _ (by decide)) (fun H locs fs hJ hP hD hS => ?_)
  have hP : va_P (dC, dI) vwCl [(h0, .inr (13, fs))] H := hP
  have hD : va_D A [(h0, .inr (13, fs))] := hD
  refine lv_aload_n hx hb dX13_meeting_5 rfl (lv_at hl 0 rfl) ?_
  refine va_get (D := (dC, dI)) (ci := 13) (v := .int 0) (C := RX13) (T := TX13) (N := 180) hx hb hts iX13 hown hK hP 0 rfl rfl 123 (by decide) (hts _ (bP 136 rfl)) (fun _ h9 => h9) (kJ_at hJ 3 rfl) dX13_meeting_6 ?_
  refine lv_if_eq (tgt := 40) hx hb dX13_meeting_9 (by decide) (fun _ => ?_) (fun h => absurd h (by decide))
  refine lv_iconst (v := (-1)) hx hb dX13_meeting_40 (by decide) ?_
  exact W.iret (v := (-1)) hx hb hr (fun t ht hW => ⟨⟨(-1), (), rfl, rfl, trivial⟩, hS.F ht⟩) hS.2.2 dX13_meeting_41
set_option maxHeartbeats 4000000 in
set_option maxRecDepth 100000 in
/-- clashes -/
theorem c_M_clashes (l : Launch) (dC : Nat → ClassId) (dI : Nat → Nat → Nat) (h0 sz : Nat) (fs : List Value) : Met l yX13_clashes (.code yX13_clashes cX13_clashes 1 (some .int) :: wP) ({ frames := 0, cells := 0, slots := 0, locals := 0 }) (va_Pc [.ref h0] (fun U => U.heap.size = sz ∧ kJ 180 [(3, .int 0), (110, .int 0), (123, .int 0)] fs ∧ va_P (dC, dI) vwCl [(h0, .inr (13, fs))] U.heap ∧ va_K (dC, dI) vwCl [] U ∧ va_D (fun _ => True) [(h0, .inr (13, fs))])) (va_Qi (fun r (_ : Unit) => r = 0) (fun (_ : Unit) (_ : State) => True) (va_A [(h0, .inr (13, fs))] sz)) 0 0 (va_A [(h0, .inr (13, fs))] sz) := by
  refine Met.ofW (cc := cX13_clashes) (maxL := 1) (ret := (some .int)) (by decide) rfl ?_
  intro p e s m args below meth c s₁ B hml hv
  obtain ⟨rfl, hsz, hJ, hP, hK, hD0⟩ := hv
  have hx := B.exec
  have hb := B.bytes
  have hr := B.returns
  have hts := atoms_spec (ws := .code yX13_clashes cX13_clashes 1 (some .int) :: wP) B.pre
  have hown : s.vm.findClass RX13 = some m.cls := findClass_of_methodNamed B.named
  subst hsz
  have hD := hD0.self (sz := s.heap.size)
  generalize hAe : va_A [(h0, .inr (13, fs))] s.heap.size = A at hD ⊢
  have hA : ∀ q : Nat, s.heap.size ≤ q → A q := fun q h => by rw [← hAe]; exact Or.inr h
  have hS : va_S A s.heap s.heap [] := va_S.rf
  have hl := lv_entry ([.ref h0]) (n := 1) (Nat.le_of_ble_eq_true rfl)
  rw [lg_entry_eq]
  generalize (lg_sl ([.ref h0]) ++ List.replicate (1 - (lg_sl ([.ref h0])).length) Slot.unset).toArray = ls at hl ⊢
  obtain ⟨H, hHe⟩ : ∃ H, H = s.heap := ⟨_, rfl⟩
  rw [← hHe] at hP ⊢
  have hS : va_S A s.heap H [] := by rw [hHe]; exact hS
  have hl : lv_has ls 1 [(0, .ref h0)] := hl
  refine lv_aload_n hx hb dX13_clashes_0 rfl (lv_at hl 0 rfl) ?_
  refine lv_iconst (v := 0) hx hb dX13_clashes_1 (by decide) ?_
  refine kq_put [(1, .int 0), (3, .int 0), (110, .int 0), (123, .int 0)] hts iX13 tyX13 tyX13_ok nmX13 hx hb hown hK hP hD hS 0 rfl rfl hJ 1 (by decide) (by decide) (hts _ (bP 135 rfl)) rfl (ty := .int) (by decide +kernel) (v := .int 0) rfl rfl dX13_clashes_2 (fun f h => kJ_put h _ _ (by decide)) (fun H locs fs hJ hP hD hS => ?_)
  have hP : va_P (dC, dI) vwCl [(h0, .inr (13, fs))] H := hP
  have hD : va_D A [(h0, .inr (13, fs))] := hD
  refine lv_aload_n hx hb dX13_clashes_5 rfl (lv_at hl 0 rfl) ?_
  refine va_get (D := (dC, dI)) (ci := 13) (v := .int 0) (C := RX13) (T := TX13) (N := 180) hx hb hts iX13 hown hK hP 0 rfl rfl 123 (by decide) (hts _ (bP 136 rfl)) (fun _ h9 => h9) (kJ_at hJ 3 rfl) dX13_clashes_6 ?_
  refine lv_if_eq (tgt := 19) hx hb dX13_clashes_9 (by decide) (fun _ => ?_) (fun h => absurd h (by decide))
  refine lv_iconst (v := 0) hx hb dX13_clashes_19 (by decide) ?_
  exact W.iret (v := 0) hx hb hr (fun t ht hW => ⟨⟨0, (), rfl, rfl, trivial⟩, hS.F ht⟩) hS.2.2 dX13_clashes_20
end
section
/-! More of the reference on a fresh object -/
theorem dX13_thrown_0 : decode cX13_thrown 0 = .ok (.aload_n 0, 1) := by decide +kernel
theorem dX13_thrown_1 : decode cX13_thrown 1 = .ok (.getfield 451, 3) := by decide +kernel
theorem dX13_thrown_4 : decode cX13_thrown 4 = .ok (.ireturn, 1) := by decide +kernel
theorem dX13_back_0 : decode cX13_back 0 = .ok (.aload_n 0, 1) := by decide +kernel
theorem dX13_back_1 : decode cX13_back 1 = .ok (.iconst 0, 1) := by decide +kernel
theorem dX13_back_2 : decode cX13_back 2 = .ok (.putfield 451, 3) := by decide +kernel
theorem dX13_back_5 : decode cX13_back 5 = .ok (.iload_n 1, 1) := by decide +kernel
theorem dX13_back_6 : decode cX13_back 6 = .ok (.ifCond .lt 11, 3) := by decide +kernel
theorem dX13_back_9 : decode cX13_back 9 = .ok (.iload_n 1, 1) := by decide +kernel
theorem dX13_back_10 : decode cX13_back 10 = .ok (.aload_n 0, 1) := by decide +kernel
theorem dX13_back_11 : decode cX13_back 11 = .ok (.getfield 455, 3) := by decide +kernel
theorem dX13_back_14 : decode cX13_back 14 = .ok (.if_icmp .le 5, 3) := by decide +kernel
theorem dX13_back_17 : decode cX13_back 17 = .ok (.iconst (-1), 1) := by decide +kernel
theorem dX13_back_18 : decode cX13_back 18 = .ok (.ireturn, 1) := by decide +kernel
theorem dX13_back_19 : decode cX13_back 19 = .ok (.aload_n 0, 1) := by decide +kernel
theorem dX13_back_20 : decode cX13_back 20 = .ok (.dup, 1) := by decide +kernel
theorem dX13_back_21 : decode cX13_back 21 = .ok (.getfield 455, 3) := by decide +kernel
theorem dX13_back_24 : decode cX13_back 24 = .ok (.iload_n 1, 1) := by decide +kernel
theorem dX13_back_25 : decode cX13_back 25 = .ok (.isub, 1) := by decide +kernel
theorem dX13_back_26 : decode cX13_back 26 = .ok (.putfield 455, 3) := by decide +kernel
theorem dX13_back_29 : decode cX13_back 29 = .ok (.aload_n 0, 1) := by decide +kernel
theorem dX13_back_30 : decode cX13_back 30 = .ok (.getfield 455, 3) := by decide +kernel
theorem dX13_back_33 : decode cX13_back 33 = .ok (.ireturn, 1) := by decide +kernel
theorem dX13_state_0 : decode cX13_state 0 = .ok (.aload_n 0, 1) := by decide +kernel
theorem dX13_state_1 : decode cX13_state 1 = .ok (.getfield 1122, 3) := by decide +kernel
theorem dX13_state_4 : decode cX13_state 4 = .ok (.ifCond .ne 5, 3) := by decide +kernel
theorem dX13_state_7 : decode cX13_state 7 = .ok (.iconst 0, 1) := by decide +kernel
theorem dX13_state_8 : decode cX13_state 8 = .ok (.ireturn, 1) := by decide +kernel
theorem dX13_begin_0 : decode cX13_begin 0 = .ok (.aload_n 0, 1) := by decide +kernel
theorem dX13_begin_1 : decode cX13_begin 1 = .ok (.aload_n 0, 1) := by decide +kernel
theorem dX13_begin_2 : decode cX13_begin 2 = .ok (.getfield 1119, 3) := by decide +kernel
theorem dX13_begin_5 : decode cX13_begin 5 = .ok (.ifCond .eq 7, 3) := by decide +kernel
theorem dX13_begin_12 : decode cX13_begin 12 = .ok (.iconst 1, 1) := by decide +kernel
theorem dX13_begin_13 : decode cX13_begin 13 = .ok (.putfield 451, 3) := by decide +kernel
theorem dX13_begin_16 : decode cX13_begin 16 = .ok (.aload_n 0, 1) := by decide +kernel
theorem dX13_begin_17 : decode cX13_begin 17 = .ok (.getfield 451, 3) := by decide +kernel
theorem dX13_begin_20 : decode cX13_begin 20 = .ok (.ifCond .le 4, 3) := by decide +kernel
theorem dX13_begin_23 : decode cX13_begin 23 = .ok (.return_, 1) := by decide +kernel
theorem dX13_run_0 : decode cX13_run 0 = .ok (.aload_n 0, 1) := by decide +kernel
theorem dX13_run_1 : decode cX13_run 1 = .ok (.iload_n 1, 1) := by decide +kernel
theorem dX13_run_2 : decode cX13_run 2 = .ok (.ifCond .lt 10, 3) := by decide +kernel
theorem dX13_run_5 : decode cX13_run 5 = .ok (.iload_n 1, 1) := by decide +kernel
theorem dX13_run_6 : decode cX13_run 6 = .ok (.sipush 2000, 3) := by decide +kernel
theorem dX13_run_9 : decode cX13_run 9 = .ok (.if_icmp .le 7, 3) := by decide +kernel
theorem dX13_run_12 : decode cX13_run 12 = .ok (.iconst 1, 1) := by decide +kernel
theorem dX13_run_13 : decode cX13_run 13 = .ok (.goto 15, 3) := by decide +kernel
theorem dX13_run_16 : decode cX13_run 16 = .ok (.aload_n 0, 1) := by decide +kernel
theorem dX13_run_17 : decode cX13_run 17 = .ok (.getfield 1122, 3) := by decide +kernel
theorem dX13_run_20 : decode cX13_run 20 = .ok (.ifCond .ne 7, 3) := by decide +kernel
theorem dX13_run_23 : decode cX13_run 23 = .ok (.iconst 2, 1) := by decide +kernel
theorem dX13_run_24 : decode cX13_run 24 = .ok (.goto 4, 3) := by decide +kernel
theorem dX13_run_28 : decode cX13_run 28 = .ok (.putfield 451, 3) := by decide +kernel
theorem dX13_run_31 : decode cX13_run 31 = .ok (.aload_n 0, 1) := by decide +kernel
theorem dX13_run_32 : decode cX13_run 32 = .ok (.getfield 451, 3) := by decide +kernel
theorem dX13_run_35 : decode cX13_run 35 = .ok (.ifCond .le 5, 3) := by decide +kernel
theorem dX13_run_38 : decode cX13_run 38 = .ok (.iconst 0, 1) := by decide +kernel
theorem dX13_run_39 : decode cX13_run 39 = .ok (.ireturn, 1) := by decide +kernel
theorem dX13_count_0 : decode cX13_count 0 = .ok (.aload_n 0, 1) := by decide +kernel
theorem dX13_count_1 : decode cX13_count 1 = .ok (.iconst 0, 1) := by decide +kernel
theorem dX13_count_2 : decode cX13_count 2 = .ok (.putfield 451, 3) := by decide +kernel
theorem dX13_count_5 : decode cX13_count 5 = .ok (.iload_n 1, 1) := by decide +kernel
theorem dX13_count_6 : decode cX13_count 6 = .ok (.iconst 5, 1) := by decide +kernel
theorem dX13_count_7 : decode cX13_count 7 = .ok (.if_icmp .lt 23, 3) := by decide +kernel
theorem dX13_count_10 : decode cX13_count 10 = .ok (.iload_n 1, 1) := by decide +kernel
theorem dX13_count_11 : decode cX13_count 11 = .ok (.bipush 13, 2) := by decide +kernel
theorem dX13_count_13 : decode cX13_count 13 = .ok (.if_icmp .gt 17, 3) := by decide +kernel
theorem dX13_count_16 : decode cX13_count 16 = .ok (.iload_n 1, 1) := by decide +kernel
theorem dX13_count_17 : decode cX13_count 17 = .ok (.iconst 4, 1) := by decide +kernel
theorem dX13_count_18 : decode cX13_count 18 = .ok (.if_icmp .eq 12, 3) := by decide +kernel
theorem dX13_count_21 : decode cX13_count 21 = .ok (.aload_n 0, 1) := by decide +kernel
theorem dX13_count_22 : decode cX13_count 22 = .ok (.getfield 1122, 3) := by decide +kernel
theorem dX13_count_25 : decode cX13_count 25 = .ok (.ifCond .ne 5, 3) := by decide +kernel
theorem dX13_count_28 : decode cX13_count 28 = .ok (.iconst 0, 1) := by decide +kernel
theorem dX13_count_29 : decode cX13_count 29 = .ok (.ireturn, 1) := by decide +kernel
theorem dX13_count_30 : decode cX13_count 30 = .ok (.iload_n 1, 1) := by decide +kernel
theorem dX13_count_31 : decode cX13_count 31 = .ok (.tableswitch 211 0 13 #[69, 85, 101, 117, 122, 127, 132, 137, 142, 147, 152, 157, 162, 167], 69) := by decide +kernel
theorem dX13_count_100 : decode cX13_count 100 = .ok (.aload_n 0, 1) := by decide +kernel
theorem dX13_count_101 : decode cX13_count 101 = .ok (.getfield 1119, 3) := by decide +kernel
theorem dX13_count_104 : decode cX13_count 104 = .ok (.ifCond .eq 10, 3) := by decide +kernel
theorem dX13_count_114 : decode cX13_count 114 = .ok (.iconst 0, 1) := by decide +kernel
theorem dX13_count_115 : decode cX13_count 115 = .ok (.ireturn, 1) := by decide +kernel
theorem dX13_count_116 : decode cX13_count 116 = .ok (.aload_n 0, 1) := by decide +kernel
theorem dX13_count_117 : decode cX13_count 117 = .ok (.getfield 1119, 3) := by decide +kernel
theorem dX13_count_120 : decode cX13_count 120 = .ok (.ifCond .eq 10, 3) := by decide +kernel
theorem dX13_count_130 : decode cX13_count 130 = .ok (.iconst 0, 1) := by decide +kernel
theorem dX13_count_131 : decode cX13_count 131 = .ok (.ireturn, 1) := by decide +kernel
theorem dX13_count_132 : decode cX13_count 132 = .ok (.aload_n 0, 1) := by decide +kernel
theorem dX13_count_133 : decode cX13_count 133 = .ok (.getfield 1119, 3) := by decide +kernel
theorem dX13_count_136 : decode cX13_count 136 = .ok (.ifCond .eq 10, 3) := by decide +kernel
theorem dX13_count_146 : decode cX13_count 146 = .ok (.iconst 0, 1) := by decide +kernel
theorem dX13_count_147 : decode cX13_count 147 = .ok (.ireturn, 1) := by decide +kernel
theorem dX13_count_148 : decode cX13_count 148 = .ok (.aload_n 0, 1) := by decide +kernel
theorem dX13_count_149 : decode cX13_count 149 = .ok (.getfield 455, 3) := by decide +kernel
theorem dX13_count_152 : decode cX13_count 152 = .ok (.ireturn, 1) := by decide +kernel
theorem dX13_count_153 : decode cX13_count 153 = .ok (.aload_n 0, 1) := by decide +kernel
theorem dX13_count_154 : decode cX13_count 154 = .ok (.invokevirtual 1501, 3) := by decide +kernel
theorem dX13_count_157 : decode cX13_count 157 = .ok (.ireturn, 1) := by decide +kernel
theorem dX13_count_242 : decode cX13_count 242 = .ok (.iconst (-1), 1) := by decide +kernel
theorem dX13_count_243 : decode cX13_count 243 = .ok (.ireturn, 1) := by decide +kernel
theorem dX13_process__0 : decode cX13_process_ 0 = .ok (.aload_n 0, 1) := by decide +kernel
theorem dX13_process__1 : decode cX13_process_ 1 = .ok (.iconst 0, 1) := by decide +kernel
theorem dX13_process__2 : decode cX13_process_ 2 = .ok (.putfield 451, 3) := by decide +kernel
theorem dX13_process__5 : decode cX13_process_ 5 = .ok (.aload_n 0, 1) := by decide +kernel
theorem dX13_process__6 : decode cX13_process_ 6 = .ok (.getfield 1122, 3) := by decide +kernel
theorem dX13_process__9 : decode cX13_process_ 9 = .ok (.ifCond .eq 11, 3) := by decide +kernel
theorem dX13_process__20 : decode cX13_process_ 20 = .ok (.iconst (-1), 1) := by decide +kernel
theorem dX13_process__21 : decode cX13_process_ 21 = .ok (.istore_n 3, 1) := by decide +kernel
theorem dX13_process__22 : decode cX13_process_ 22 = .ok (.iload_n 3, 1) := by decide +kernel
theorem dX13_process__23 : decode cX13_process_ 23 = .ok (.ifCond .ge 5, 3) := by decide +kernel
theorem dX13_process__26 : decode cX13_process_ 26 = .ok (.iconst (-1), 1) := by decide +kernel
theorem dX13_process__27 : decode cX13_process_ 27 = .ok (.ireturn, 1) := by decide +kernel
set_option maxHeartbeats 4000000 in
set_option maxRecDepth 100000 in
/-- process_ -/
theorem c_M_process_ (l : Launch) (dC : Nat → ClassId) (dI : Nat → Nat → Nat) (h0 sz : Nat) (fs : List Value) (a1 : Int32) (a2 : Int32) : Met l yX13_process_ (.code yX13_process_ cX13_process_ 5 (some .int) :: wP) ({ frames := 0, cells := 0, slots := 0, locals := 0 }) (va_Pc [.ref h0, .int a1, .int a2] (fun U => U.heap.size = sz ∧ kJ 180 [(3, .int 0), (110, .int 0), (123, .int 0)] fs ∧ va_P (dC, dI) vwCl [(h0, .inr (13, fs))] U.heap ∧ va_K (dC, dI) vwCl [] U ∧ va_D (fun _ => True) [(h0, .inr (13, fs))])) (va_Qi (fun r (_ : Unit) => r = -1) (fun (_ : Unit) (_ : State) => True) (va_A [(h0, .inr (13, fs))] sz)) 0 0 (va_A [(h0, .inr (13, fs))] sz) := by
  refine Met.ofW (cc := cX13_process_) (maxL := 5) (ret := (some .int)) (by decide) rfl ?_
  intro p e s m args below meth c s₁ B hml hv
  obtain ⟨rfl, hsz, hJ, hP, hK, hD0⟩ := hv
  have hx := B.exec
  have hb := B.bytes
  have hr := B.returns
  have hts := atoms_spec (ws := .code yX13_process_ cX13_process_ 5 (some .int) :: wP) B.pre
  have hown : s.vm.findClass RX13 = some m.cls := findClass_of_methodNamed B.named
  subst hsz
  have hD := hD0.self (sz := s.heap.size)
  generalize hAe : va_A [(h0, .inr (13, fs))] s.heap.size = A at hD ⊢
  have hA : ∀ q : Nat, s.heap.size ≤ q → A q := fun q h => by rw [← hAe]; exact Or.inr h
  have hS : va_S A s.heap s.heap [] := va_S.rf
  have hl := lv_entry ([.ref h0, .int a1, .int a2]) (n := 5) (Nat.le_of_ble_eq_true rfl)
  rw [lg_entry_eq]
  generalize (lg_sl ([.ref h0, .int a1, .int a2]) ++ List.replicate (5 - (lg_sl ([.ref h0, .int a1, .int a2])).length) Slot.unset).toArray = ls at hl ⊢
  obtain ⟨H, hHe⟩ : ∃ H, H = s.heap := ⟨_, rfl⟩
  rw [← hHe] at hP ⊢
  have hS : va_S A s.heap H [] := by rw [hHe]; exact hS
  have hl : lv_has ls 5 [(0, .ref h0), (1, .int a1), (2, .int a2)] := hl
  refine lv_aload_n hx hb dX13_process__0 rfl (lv_at hl 0 rfl) ?_
  refine lv_iconst (v := 0) hx hb dX13_process__1 (by decide) ?_
  refine kq_put [(1, .int 0), (3, .int 0), (110, .int 0), (123, .int 0)] hts iX13 tyX13 tyX13_ok nmX13 hx hb hown hK hP hD hS 0 rfl rfl hJ 1 (by decide) (by decide) (hts _ (bP 135 rfl)) rfl (ty := .int) (by decide +kernel) (v := .int 0) rfl rfl dX13_process__2 (fun f h => kJ_put h _ _ (by decide)) (fun H locs fs hJ hP hD hS => ?_)
  have hP : va_P (dC, dI) vwCl [(h0, .inr (13, fs))] H := hP
  have hD : va_D A [(h0, .inr (13, fs))] := hD
  refine lv_aload_n hx hb dX13_process__5 rfl (lv_at hl 0 rfl) ?_
  refine va_get (D := (dC, dI)) (ci := 13) (v := .int 0) (C := RX13) (T := TX13) (N := 180) hx hb hts iX13 hown hK hP 0 rfl rfl 123 (by decide) (hts _ (bP 136 rfl)) (fun _ h9 => h9) (kJ_at hJ 3 rfl) dX13_process__6 ?_
  refine lv_if_eq (tgt := 20) hx hb dX13_process__9 (by decide) (fun _ => ?_) (fun h => absurd h (by decide))
  refine lv_iconst (v := (-1)) hx hb dX13_process__20 (by decide) ?_
  refine lv_istore_n (lv' := [(3, .int ((-1))), (0, .ref h0), (1, .int a1), (2, .int a2)]) hx hb dX13_process__21 rfl hl (by decide) rfl (fun ls hl => ?_)
  refine lv_iload_n hx hb dX13_process__22 rfl (lv_at hl 0 rfl) ?_
  refine lv_if_ge (tgt := 28) hx hb dX13_process__23 (by decide) (fun h => absurd h (by decide)) (fun _ => ?_)
  refine lv_iconst (v := (-1)) hx hb dX13_process__26 (by decide) ?_
  exact W.iret (v := (-1)) hx hb hr (fun t ht hW => ⟨⟨(-1), (), rfl, rfl, trivial⟩, hS.F ht⟩) hS.2.2 dX13_process__27
set_option maxHeartbeats 4000000 in
set_option maxRecDepth 100000 in
/-- back -/
theorem c_M_back (l : Launch) (dC : Nat → ClassId) (dI : Nat → Nat → Nat) (h0 sz : Nat) (fs : List Value) (a1 : Int32) : Met l yX13_back (.code yX13_back cX13_back 2 (some .int) :: wP) ({ frames := 0, cells := 0, slots := 0, locals := 0 }) (va_Pc [.ref h0, .int a1] (fun U => U.heap.size = sz ∧ kJ 180 [(3, .int 0), (110, .int 0), (123, .int 0)] fs ∧ va_P (dC, dI) vwCl [(h0, .inr (13, fs))] U.heap ∧ va_K (dC, dI) vwCl [] U ∧ va_D (fun _ => True) [(h0, .inr (13, fs))])) (va_Qi (fun r (_ : Unit) => r = bk a1) (fun (_ : Unit) (_ : State) => True) (va_A [(h0, .inr (13, fs))] sz)) 0 0 (va_A [(h0, .inr (13, fs))] sz) := by
  refine Met.ofW (cc := cX13_back) (maxL := 2) (ret := (some .int)) (by decide) rfl ?_
  intro p e s m args below meth c s₁ B hml hv
  obtain ⟨rfl, hsz, hJ, hP, hK, hD0⟩ := hv
  have hx := B.exec
  have hb := B.bytes
  have hr := B.returns
  have hts := atoms_spec (ws := .code yX13_back cX13_back 2 (some .int) :: wP) B.pre
  have hown : s.vm.findClass RX13 = some m.cls := findClass_of_methodNamed B.named
  subst hsz
  have hD := hD0.self (sz := s.heap.size)
  generalize hAe : va_A [(h0, .inr (13, fs))] s.heap.size = A at hD ⊢
  have hA : ∀ q : Nat, s.heap.size ≤ q → A q := fun q h => by rw [← hAe]; exact Or.inr h
  have hS : va_S A s.heap s.heap [] := va_S.rf
  have hl := lv_entry ([.ref h0, .int a1]) (n := 2) (Nat.le_of_ble_eq_true rfl)
  rw [lg_entry_eq]
  generalize (lg_sl ([.ref h0, .int a1]) ++ List.replicate (2 - (lg_sl ([.ref h0, .int a1])).length) Slot.unset).toArray = ls at hl ⊢
  obtain ⟨H, hHe⟩ : ∃ H, H = s.heap := ⟨_, rfl⟩
  rw [← hHe] at hP ⊢
  have hS : va_S A s.heap H [] := by rw [hHe]; exact hS
  have hl : lv_has ls 2 [(0, .ref h0), (1, .int a1)] := hl
  refine lv_aload_n hx hb dX13_back_0 rfl (lv_at hl 0 rfl) ?_
  refine lv_iconst (v := 0) hx hb dX13_back_1 (by decide) ?_
  refine kq_put [(1, .int 0), (3, .int 0), (110, .int 0), (123, .int 0)] hts iX13 tyX13 tyX13_ok nmX13 hx hb hown hK hP hD hS 0 rfl rfl hJ 1 (by decide) (by decide) (hts _ (bP 135 rfl)) rfl (ty := .int) (by decide +kernel) (v := .int 0) rfl rfl dX13_back_2 (fun f h => kJ_put h _ _ (by decide)) (fun H locs fs hJ hP hD hS => ?_)
  have hP : va_P (dC, dI) vwCl [(h0, .inr (13, fs))] H := hP
  have hD : va_D A [(h0, .inr (13, fs))] := hD
  refine lv_iload_n hx hb dX13_back_5 rfl (lv_at hl 1 rfl) ?_
  refine lv_if_lt (tgt := 17) hx hb dX13_back_6 (by decide) (fun h6 => ?_) (fun h6 => ?_)
  · refine lv_iconst (v := (-1)) hx hb dX13_back_17 (by decide) ?_
    exact W.iret (v := (-1)) hx hb hr (fun t ht hW => ⟨⟨(-1), (), rfl, by first | exact bk1 h6 | exact bk2 h6 h14 ez1 | exact bk3 h14, trivial⟩, hS.F ht⟩) hS.2.2 dX13_back_18
  · refine lv_iload_n hx hb dX13_back_9 rfl (lv_at hl 1 rfl) ?_
    refine lv_aload_n hx hb dX13_back_10 rfl (lv_at hl 0 rfl) ?_
    refine va_get (D := (dC, dI)) (ci := 13) (v := .int 0) (C := RX13) (T := TX13) (N := 180) hx hb hts iX13 hown hK hP 0 rfl rfl 3 (by decide) (hts _ (bP 139 rfl)) (fun _ h9 => h9) (kJ_at hJ 1 rfl) dX13_back_11 ?_
    refine lv_icmp_le (tgt := 19) hx hb dX13_back_14 (by decide) (fun h14 => ?_) (fun h14 => ?_)
    · refine lv_aload_n hx hb dX13_back_19 rfl (lv_at hl 0 rfl) ?_
      refine lv_dup hx hb dX13_back_20 rfl ?_
      refine va_get (D := (dC, dI)) (ci := 13) (v := .int 0) (C := RX13) (T := TX13) (N := 180) hx hb hts iX13 hown hK hP 0 rfl rfl 3 (by decide) (hts _ (bP 139 rfl)) (fun _ h9 => h9) (kJ_at hJ 1 rfl) dX13_back_21 ?_
      refine lv_iload_n hx hb dX13_back_24 rfl (lv_at hl 1 rfl) ?_
      refine lv_isub hx hb dX13_back_25 ?_
      refine lv_topi (fun z1 ez1 => ?_)
      refine kq_put [(3, .int z1), (1, .int 0), (110, .int 0), (123, .int 0)] hts iX13 tyX13 tyX13_ok nmX13 hx hb hown hK hP hD hS 0 rfl rfl hJ 3 (by decide) (by decide) (hts _ (bP 139 rfl)) rfl (ty := .int) (by decide +kernel) (v := .int z1) rfl rfl dX13_back_26 (fun f h => kJ_put h _ _ (by decide)) (fun H locs fs hJ hP hD hS => ?_)
      have hP : va_P (dC, dI) vwCl [(h0, .inr (13, fs))] H := hP
      have hD : va_D A [(h0, .inr (13, fs))] := hD
      refine lv_aload_n hx hb dX13_back_29 rfl (lv_at hl 0 rfl) ?_
      refine va_get (D := (dC, dI)) (ci := 13) (v := .int z1) (C := RX13) (T := TX13) (N := 180) hx hb hts iX13 hown hK hP 0 rfl rfl 3 (by decide) (hts _ (bP 139 rfl)) (fun _ h9 => h9) (kJ_at hJ 0 rfl) dX13_back_30 ?_
      exact W.iret (v := z1) hx hb hr (fun t ht hW => ⟨⟨z1, (), rfl, by first | exact bk1 h6 | exact bk2 h6 h14 ez1 | exact bk3 h14, trivial⟩, hS.F ht⟩) hS.2.2 dX13_back_33
    · refine lv_iconst (v := (-1)) hx hb dX13_back_17 (by decide) ?_
      exact W.iret (v := (-1)) hx hb hr (fun t ht hW => ⟨⟨(-1), (), rfl, by first | exact bk1 h6 | exact bk2 h6 h14 ez1 | exact bk3 h14, trivial⟩, hS.F ht⟩) hS.2.2 dX13_back_18
set_option maxHeartbeats 4000000 in
set_option maxRecDepth 100000 in
/-- begin -/
theorem c_M_begin (l : Launch) (dC : Nat → ClassId) (dI : Nat → Nat → Nat) (h0 sz : Nat) (fs : List Value) (a1 : Int32) : Met l yX13_begin (.code yX13_begin cX13_begin 3 none :: wP) ({ frames := 0, cells := 0, slots := 0, locals := 0 }) (va_Pc [.ref h0, .int a1] (fun U => U.heap.size = sz ∧ kJ 180 [(3, .int 0), (110, .int 0), (123, .int 0)] fs ∧ va_P (dC, dI) vwCl [(h0, .inr (13, fs))] U.heap ∧ va_K (dC, dI) vwCl [] U ∧ va_D (fun _ => True) [(h0, .inr (13, fs))])) (va_Qv (fun u : List Value => kJ 180 [(1, .int 1)] u) (fun (u : List Value) (t : State) => va_P (dC, dI) vwCl [(h0, .inr (13, u))] t.heap ∧ va_K (dC, dI) vwCl [] t ∧ va_D (va_A [(h0, .inr (13, fs))] sz) [(h0, .inr (13, u))]) (va_A [(h0, .inr (13, fs))] sz)) 0 0 (va_A [(h0, .inr (13, fs))] sz) := by
  refine Met.ofW (cc := cX13_begin) (maxL := 3) (ret := none) (by decide) rfl ?_
  intro p e s m args below meth c s₁ B hml hv
  obtain ⟨rfl, hsz, hJ, hP, hK, hD0⟩ := hv
  have hx := B.exec
  have hb := B.bytes
  have hr := B.returns
  have hts := atoms_spec (ws := .code yX13_begin cX13_begin 3 none :: wP) B.pre
  have hown : s.vm.findClass RX13 = some m.cls := findClass_of_methodNamed B.named
  subst hsz
  have hD := hD0.self (sz := s.heap.size)
  generalize hAe : va_A [(h0, .inr (13, fs))] s.heap.size = A at hD ⊢
  have hA : ∀ q : Nat, s.heap.size ≤ q → A q := fun q h => by rw [← hAe]; exact Or.inr h
  have hS : va_S A s.heap s.heap [] := va_S.rf
  have hl := lv_entry ([.ref h0, .int a1]) (n := 3) (Nat.le_of_ble_eq_true rfl)
  rw [lg_entry_eq]
  generalize (lg_sl ([.ref h0, .int a1]) ++ List.replicate (3 - (lg_sl ([.ref h0, .int a1])).length) Slot.unset).toArray = ls at hl ⊢
  obtain ⟨H, hHe⟩ : ∃ H, H = s.heap := ⟨_, rfl⟩
  rw [← hHe] at hP ⊢
  have hS : va_S A s.heap H [] := by rw [hHe]; exact hS
  have hl : lv_has ls 3 [(0, .ref h0), (1, .int a1)] := hl
  refine lv_aload_n hx hb dX13_begin_0 rfl (lv_at hl 0 rfl) ?_
  refine lv_aload_n hx hb dX13_begin_1 rfl (lv_at hl 0 rfl) ?_
  refine va_get (D := (dC, dI)) (ci := 13) (v := .int 0) (C := RX13) (T := TX13) (N := 180) hx hb hts iX13 hown hK hP 0 rfl rfl 110 (by decide) (hts _ (bP 141 rfl)) (fun _ h9 => h9) (kJ_at hJ 1 rfl) dX13_begin_2 ?_
  refine lv_if_eq (tgt := 12) hx hb dX13_begin_5 (by decide) (fun _ => ?_) (fun h => absurd h (by decide))
  refine lv_iconst (v := 1) hx hb dX13_begin_12 (by decide) ?_
  refine kq_put [(1, .int 1), (3, .int 0), (110, .int 0), (123, .int 0)] hts iX13 tyX13 tyX13_ok nmX13 hx hb hown hK hP hD hS 0 rfl rfl hJ 1 (by decide) (by decide) (hts _ (bP 135 rfl)) rfl (ty := .int) (by decide +kernel) (v := .int 1) rfl rfl dX13_begin_13 (fun f h => kJ_put h _ _ (by decide)) (fun H locs fs hJ hP hD hS => ?_)
  have hP : va_P (dC, dI) vwCl [(h0, .inr (13, fs))] H := hP
  have hD : va_D A [(h0, .inr (13, fs))] := hD
  refine lv_aload_n hx hb dX13_begin_16 rfl (lv_at hl 0 rfl) ?_
  refine va_get (D := (dC, dI)) (ci := 13) (v := .int 1) (C := RX13) (T := TX13) (N := 180) hx hb hts iX13 hown hK hP 0 rfl rfl 1 (by decide) (hts _ (bP 135 rfl)) (fun _ h9 => h9) (kJ_at hJ 0 rfl) dX13_begin_17 ?_
  refine lv_if_le (tgt := 24) hx hb dX13_begin_20 (by decide) (fun h => absurd h (by decide)) (fun _ => ?_)
  exact W.vret hx hb hr (fun t ht hW => ⟨⟨fs, rfl, kJ_sub hJ (fun x hx => by rw [List.mem_singleton.mp hx]; exact List.mem_cons_self), by rw [ht]; exact hP, va_K.moved hW.alike hK, hD⟩, hS.F ht⟩) hS.2.2 dX13_begin_23
set_option maxHeartbeats 4000000 in
set_option maxRecDepth 100000 in
/-- run -/
theorem c_M_run (l : Launch) (dC : Nat → ClassId) (dI : Nat → Nat → Nat) (h0 sz : Nat) (fs : List Value) (a1 : Int32) : Met l yX13_run (.code yX13_run cX13_run 5 (some .int) :: wP) ({ frames := 0, cells := 0, slots := 0, locals := 0 }) (va_Pc [.ref h0, .int a1] (fun U => U.heap.size = sz ∧ kJ 180 [(3, .int 0), (110, .int 0), (123, .int 0)] fs ∧ va_P (dC, dI) vwCl [(h0, .inr (13, fs))] U.heap ∧ va_K (dC, dI) vwCl [] U ∧ va_D (fun _ => True) [(h0, .inr (13, fs))])) (va_Qi (fun (_ : Int32) (u : List Value) => kJ 180 [(1, .int (rc a1))] u) (fun (u : List Value) (t : State) => va_P (dC, dI) vwCl [(h0, .inr (13, u))] t.heap ∧ va_K (dC, dI) vwCl [] t ∧ va_D (va_A [(h0, .inr (13, fs))] sz) [(h0, .inr (13, u))]) (va_A [(h0, .inr (13, fs))] sz)) 0 0 (va_A [(h0, .inr (13, fs))] sz) := by
  refine Met.ofW (cc := cX13_run) (maxL := 5) (ret := (some .int)) (by decide) rfl ?_
  intro p e s m args below meth c s₁ B hml hv
  obtain ⟨rfl, hsz, hJ, hP, hK, hD0⟩ := hv
  have hx := B.exec
  have hb := B.bytes
  have hr := B.returns
  have hts := atoms_spec (ws := .code yX13_run cX13_run 5 (some .int) :: wP) B.pre
  have hown : s.vm.findClass RX13 = some m.cls := findClass_of_methodNamed B.named
  subst hsz
  have hD := hD0.self (sz := s.heap.size)
  generalize hAe : va_A [(h0, .inr (13, fs))] s.heap.size = A at hD ⊢
  have hA : ∀ q : Nat, s.heap.size ≤ q → A q := fun q h => by rw [← hAe]; exact Or.inr h
  have hS : va_S A s.heap s.heap [] := va_S.rf
  have hl := lv_entry ([.ref h0, .int a1]) (n := 5) (Nat.le_of_ble_eq_true rfl)
  rw [lg_entry_eq]
  generalize (lg_sl ([.ref h0, .int a1]) ++ List.replicate (5 - (lg_sl ([.ref h0, .int a1])).length) Slot.unset).toArray = ls at hl ⊢
  obtain ⟨H, hHe⟩ : ∃ H, H = s.heap := ⟨_, rfl⟩
  rw [← hHe] at hP ⊢
  have hS : va_S A s.heap H [] := by rw [hHe]; exact hS
  have hl : lv_has ls 5 [(0, .ref h0), (1, .int a1)] := hl
  refine lv_aload_n hx hb dX13_run_0 rfl (lv_at hl 0 rfl) ?_
  refine lv_iload_n hx hb dX13_run_1 rfl (lv_at hl 1 rfl) ?_
  refine lv_if_lt (tgt := 12) hx hb dX13_run_2 (by decide) (fun h2 => ?_) (fun h2 => ?_)
  · refine lv_iconst (v := 1) hx hb dX13_run_12 (by decide) ?_
    refine lv_goto (tgt := 28) hx hb dX13_run_13 (by decide) ?_
    refine kq_put [(1, .int 1), (3, .int 0), (110, .int 0), (123, .int 0)] hts iX13 tyX13 tyX13_ok nmX13 hx hb hown hK hP hD hS 0 rfl rfl hJ 1 (by decide) (by decide) (hts _ (bP 135 rfl)) rfl (ty := .int) (by decide +kernel) (v := .int 1) rfl rfl dX13_run_28 (fun f h => kJ_put h _ _ (by decide)) (fun H locs fs hJ hP hD hS => ?_)
    have hP : va_P (dC, dI) vwCl [(h0, .inr (13, fs))] H := hP
    have hD : va_D A [(h0, .inr (13, fs))] := hD
    refine lv_aload_n hx hb dX13_run_31 rfl (lv_at hl 0 rfl) ?_
    refine va_get (D := (dC, dI)) (ci := 13) (v := .int 1) (C := RX13) (T := TX13) (N := 180) hx hb hts iX13 hown hK hP 0 rfl rfl 1 (by decide) (hts _ (bP 135 rfl)) (fun _ h9 => h9) (kJ_at hJ 0 rfl) dX13_run_32 ?_
    refine lv_if_le (tgt := 40) hx hb dX13_run_35 (by decide) (fun h => absurd h (by decide)) (fun _ => ?_)
    refine lv_iconst (v := 0) hx hb dX13_run_38 (by decide) ?_
    exact W.iret (v := 0) hx hb hr (fun t ht hW => ⟨⟨0, fs, rfl, by first | (rw [rc1 h2]; exact kJ_sub hJ (fun x hx => by rw [List.mem_singleton.mp hx]; exact List.mem_cons_self)) | (rw [rc2 h9]; exact kJ_sub hJ (fun x hx => by rw [List.mem_singleton.mp hx]; exact List.mem_cons_self)) | (rw [rc3 h2 h9]; exact kJ_sub hJ (fun x hx => by rw [List.mem_singleton.mp hx]; exact List.mem_cons_self)), by rw [ht]; exact hP, va_K.moved hW.alike hK, hD⟩, hS.F ht⟩) hS.2.2 dX13_run_39
  · refine lv_iload_n hx hb dX13_run_5 rfl (lv_at hl 1 rfl) ?_
    refine lv_sipush (v := 2000) hx hb dX13_run_6 (by decide) ?_
    refine lv_icmp_le (tgt := 16) hx hb dX13_run_9 (by decide) (fun h9 => ?_) (fun h9 => ?_)
    · refine lv_aload_n hx hb dX13_run_16 rfl (lv_at hl 0 rfl) ?_
      refine va_get (D := (dC, dI)) (ci := 13) (v := .int 0) (C := RX13) (T := TX13) (N := 180) hx hb hts iX13 hown hK hP 0 rfl rfl 123 (by decide) (hts _ (bP 136 rfl)) (fun _ h9 => h9) (kJ_at hJ 2 rfl) dX13_run_17 ?_
      refine lv_if_ne (tgt := 27) hx hb dX13_run_20 (by decide) (fun h => absurd h (by decide)) (fun _ => ?_)
      refine lv_iconst (v := 2) hx hb dX13_run_23 (by decide) ?_
      refine lv_goto (tgt := 28) hx hb dX13_run_24 (by decide) ?_
      refine kq_put [(1, .int 2), (3, .int 0), (110, .int 0), (123, .int 0)] hts iX13 tyX13 tyX13_ok nmX13 hx hb hown hK hP hD hS 0 rfl rfl hJ 1 (by decide) (by decide) (hts _ (bP 135 rfl)) rfl (ty := .int) (by decide +kernel) (v := .int 2) rfl rfl dX13_run_28 (fun f h => kJ_put h _ _ (by decide)) (fun H locs fs hJ hP hD hS => ?_)
      have hP : va_P (dC, dI) vwCl [(h0, .inr (13, fs))] H := hP
      have hD : va_D A [(h0, .inr (13, fs))] := hD
      refine lv_aload_n hx hb dX13_run_31 rfl (lv_at hl 0 rfl) ?_
      refine va_get (D := (dC, dI)) (ci := 13) (v := .int 2) (C := RX13) (T := TX13) (N := 180) hx hb hts iX13 hown hK hP 0 rfl rfl 1 (by decide) (hts _ (bP 135 rfl)) (fun _ h9 => h9) (kJ_at hJ 0 rfl) dX13_run_32 ?_
      refine lv_if_le (tgt := 40) hx hb dX13_run_35 (by decide) (fun h => absurd h (by decide)) (fun _ => ?_)
      refine lv_iconst (v := 0) hx hb dX13_run_38 (by decide) ?_
      exact W.iret (v := 0) hx hb hr (fun t ht hW => ⟨⟨0, fs, rfl, by first | (rw [rc1 h2]; exact kJ_sub hJ (fun x hx => by rw [List.mem_singleton.mp hx]; exact List.mem_cons_self)) | (rw [rc2 h9]; exact kJ_sub hJ (fun x hx => by rw [List.mem_singleton.mp hx]; exact List.mem_cons_self)) | (rw [rc3 h2 h9]; exact kJ_sub hJ (fun x hx => by rw [List.mem_singleton.mp hx]; exact List.mem_cons_self)), by rw [ht]; exact hP, va_K.moved hW.alike hK, hD⟩, hS.F ht⟩) hS.2.2 dX13_run_39
    · refine lv_iconst (v := 1) hx hb dX13_run_12 (by decide) ?_
      refine lv_goto (tgt := 28) hx hb dX13_run_13 (by decide) ?_
      refine kq_put [(1, .int 1), (3, .int 0), (110, .int 0), (123, .int 0)] hts iX13 tyX13 tyX13_ok nmX13 hx hb hown hK hP hD hS 0 rfl rfl hJ 1 (by decide) (by decide) (hts _ (bP 135 rfl)) rfl (ty := .int) (by decide +kernel) (v := .int 1) rfl rfl dX13_run_28 (fun f h => kJ_put h _ _ (by decide)) (fun H locs fs hJ hP hD hS => ?_)
      have hP : va_P (dC, dI) vwCl [(h0, .inr (13, fs))] H := hP
      have hD : va_D A [(h0, .inr (13, fs))] := hD
      refine lv_aload_n hx hb dX13_run_31 rfl (lv_at hl 0 rfl) ?_
      refine va_get (D := (dC, dI)) (ci := 13) (v := .int 1) (C := RX13) (T := TX13) (N := 180) hx hb hts iX13 hown hK hP 0 rfl rfl 1 (by decide) (hts _ (bP 135 rfl)) (fun _ h9 => h9) (kJ_at hJ 0 rfl) dX13_run_32 ?_
      refine lv_if_le (tgt := 40) hx hb dX13_run_35 (by decide) (fun h => absurd h (by decide)) (fun _ => ?_)
      refine lv_iconst (v := 0) hx hb dX13_run_38 (by decide) ?_
      exact W.iret (v := 0) hx hb hr (fun t ht hW => ⟨⟨0, fs, rfl, by first | (rw [rc1 h2]; exact kJ_sub hJ (fun x hx => by rw [List.mem_singleton.mp hx]; exact List.mem_cons_self)) | (rw [rc2 h9]; exact kJ_sub hJ (fun x hx => by rw [List.mem_singleton.mp hx]; exact List.mem_cons_self)) | (rw [rc3 h2 h9]; exact kJ_sub hJ (fun x hx => by rw [List.mem_singleton.mp hx]; exact List.mem_cons_self)), by rw [ht]; exact hP, va_K.moved hW.alike hK, hD⟩, hS.F ht⟩) hS.2.2 dX13_run_39
set_option maxHeartbeats 4000000 in
set_option maxRecDepth 100000 in
/-- thrown -/
theorem c_M_thrown (l : Launch) (dC : Nat → ClassId) (dI : Nat → Nat → Nat) (h0 sz : Nat) (fs : List Value) (k : Int32) : Met l yX13_thrown (.code yX13_thrown cX13_thrown 1 (some .int) :: wP) ({ frames := 0, cells := 0, slots := 0, locals := 0 }) (va_Pc [.ref h0] (fun U => U.heap.size = sz ∧ kJ 180 [(1, .int k)] fs ∧ va_P (dC, dI) vwCl [(h0, .inr (13, fs))] U.heap ∧ va_K (dC, dI) vwCl [] U ∧ va_D (fun _ => True) [(h0, .inr (13, fs))])) (va_Qi (fun r (_ : Unit) => r = k) (fun (_ : Unit) (_ : State) => True) (va_A [(h0, .inr (13, fs))] sz)) 0 0 (va_A [(h0, .inr (13, fs))] sz) := by
  refine Met.ofW (cc := cX13_thrown) (maxL := 1) (ret := (some .int)) (by decide) rfl ?_
  intro p e s m args below meth c s₁ B hml hv
  obtain ⟨rfl, hsz, hJ, hP, hK, hD0⟩ := hv
  have hx := B.exec
  have hb := B.bytes
  have hr := B.returns
  have hts := atoms_spec (ws := .code yX13_thrown cX13_thrown 1 (some .int) :: wP) B.pre
  have hown : s.vm.findClass RX13 = some m.cls := findClass_of_methodNamed B.named
  subst hsz
  have hD := hD0.self (sz := s.heap.size)
  generalize hAe : va_A [(h0, .inr (13, fs))] s.heap.size = A at hD ⊢
  have hA : ∀ q : Nat, s.heap.size ≤ q → A q := fun q h => by rw [← hAe]; exact Or.inr h
  have hS : va_S A s.heap s.heap [] := va_S.rf
  have hl := lv_entry ([.ref h0]) (n := 1) (Nat.le_of_ble_eq_true rfl)
  rw [lg_entry_eq]
  generalize (lg_sl ([.ref h0]) ++ List.replicate (1 - (lg_sl ([.ref h0])).length) Slot.unset).toArray = ls at hl ⊢
  obtain ⟨H, hHe⟩ : ∃ H, H = s.heap := ⟨_, rfl⟩
  rw [← hHe] at hP ⊢
  have hS : va_S A s.heap H [] := by rw [hHe]; exact hS
  have hl : lv_has ls 1 [(0, .ref h0)] := hl
  refine lv_aload_n hx hb dX13_thrown_0 rfl (lv_at hl 0 rfl) ?_
  refine va_get (D := (dC, dI)) (ci := 13) (v := .int k) (C := RX13) (T := TX13) (N := 180) hx hb hts iX13 hown hK hP 0 rfl rfl 1 (by decide) (hts _ (bP 135 rfl)) (fun _ h9 => h9) (kJ_at hJ 0 rfl) dX13_thrown_1 ?_
  exact W.iret (v := k) hx hb hr (fun t ht hW => ⟨⟨k, (), rfl, rfl, trivial⟩, hS.F ht⟩) hS.2.2 dX13_thrown_4
set_option maxHeartbeats 4000000 in
set_option maxRecDepth 100000 in
/-- state -/
theorem c_M_state (l : Launch) (dC : Nat → ClassId) (dI : Nat → Nat → Nat) (h0 sz : Nat) (fs : List Value) : Met l yX13_state (.code yX13_state cX13_state 1 (some .int) :: wP) ({ frames := 0, cells := 0, slots := 0, locals := 0 }) (va_Pc [.ref h0] (fun U => U.heap.size = sz ∧ kJ 180 [(3, .int 0), (110, .int 0), (123, .int 0)] fs ∧ va_P (dC, dI) vwCl [(h0, .inr (13, fs))] U.heap ∧ va_K (dC, dI) vwCl [] U ∧ va_D (fun _ => True) [(h0, .inr (13, fs))])) (va_Qi (fun r (_ : Unit) => r = 0) (fun (_ : Unit) (_ : State) => True) (va_A [(h0, .inr (13, fs))] sz)) 0 0 (va_A [(h0, .inr (13, fs))] sz) := by
  refine Met.ofW (cc := cX13_state) (maxL := 1) (ret := (some .int)) (by decide) rfl ?_
  intro p e s m args below meth c s₁ B hml hv
  obtain ⟨rfl, hsz, hJ, hP, hK, hD0⟩ := hv
  have hx := B.exec
  have hb := B.bytes
  have hr := B.returns
  have hts := atoms_spec (ws := .code yX13_state cX13_state 1 (some .int) :: wP) B.pre
  have hown : s.vm.findClass RX13 = some m.cls := findClass_of_methodNamed B.named
  subst hsz
  have hD := hD0.self (sz := s.heap.size)
  generalize hAe : va_A [(h0, .inr (13, fs))] s.heap.size = A at hD ⊢
  have hA : ∀ q : Nat, s.heap.size ≤ q → A q := fun q h => by rw [← hAe]; exact Or.inr h
  have hS : va_S A s.heap s.heap [] := va_S.rf
  have hl := lv_entry ([.ref h0]) (n := 1) (Nat.le_of_ble_eq_true rfl)
  rw [lg_entry_eq]
  generalize (lg_sl ([.ref h0]) ++ List.replicate (1 - (lg_sl ([.ref h0])).length) Slot.unset).toArray = ls at hl ⊢
  obtain ⟨H, hHe⟩ : ∃ H, H = s.heap := ⟨_, rfl⟩
  rw [← hHe] at hP ⊢
  have hS : va_S A s.heap H [] := by rw [hHe]; exact hS
  have hl : lv_has ls 1 [(0, .ref h0)] := hl
  refine lv_aload_n hx hb dX13_state_0 rfl (lv_at hl 0 rfl) ?_
  refine va_get (D := (dC, dI)) (ci := 13) (v := .int 0) (C := RX13) (T := TX13) (N := 180) hx hb hts iX13 hown hK hP 0 rfl rfl 123 (by decide) (hts _ (bP 136 rfl)) (fun _ h9 => h9) (kJ_at hJ 2 rfl) dX13_state_1 ?_
  refine lv_if_ne (tgt := 9) hx hb dX13_state_4 (by decide) (fun h => absurd h (by decide)) (fun _ => ?_)
  refine lv_iconst (v := 0) hx hb dX13_state_7 (by decide) ?_
  exact W.iret (v := 0) hx hb hr (fun t ht hW => ⟨⟨0, (), rfl, rfl, trivial⟩, hS.F ht⟩) hS.2.2 dX13_state_8
set_option maxHeartbeats 4000000 in
set_option maxRecDepth 100000 in
/-- count -/
theorem c_M_count (l : Launch) (dC : Nat → ClassId) (dI : Nat → Nat → Nat) (h0 sz : Nat) (fs : List Value) (a1 : Int32) : Met l yX13_count (.code yX13_count cX13_count 4 (some .int) :: wP) ({ frames := 1, cells := 0, slots := 0, locals := 20 }) (va_Pc [.ref h0, .int a1] (fun U => U.heap.size = sz ∧ kJ 180 [(3, .int 0), (110, .int 0), (123, .int 0)] fs ∧ va_P (dC, dI) vwCl [(h0, .inr (13, fs))] U.heap ∧ va_K (dC, dI) vwCl [] U ∧ va_D (fun _ => True) [(h0, .inr (13, fs))])) (va_Qi (fun r (_ : Unit) => r = cnt a1) (fun (_ : Unit) (_ : State) => True) (va_A [(h0, .inr (13, fs))] sz)) 0 0 (va_A [(h0, .inr (13, fs))] sz) := by
  refine Met.ofW (cc := cX13_count) (maxL := 4) (ret := (some .int)) (by decide) rfl ?_
  intro p e s m args below meth c s₁ B hml hv
  obtain ⟨rfl, hsz, hJ, hP, hK, hD0⟩ := hv
  have hx := B.exec
  have hb := B.bytes
  have hr := B.returns
  have hts := atoms_spec (ws := .code yX13_count cX13_count 4 (some .int) :: wP) B.pre
  have hown : s.vm.findClass RX13 = some m.cls := findClass_of_methodNamed B.named
  subst hsz
  have hD := hD0.self (sz := s.heap.size)
  generalize hAe : va_A [(h0, .inr (13, fs))] s.heap.size = A at hD ⊢
  have hA : ∀ q : Nat, s.heap.size ≤ q → A q := fun q h => by rw [← hAe]; exact Or.inr h
  have hS : va_S A s.heap s.heap [] := va_S.rf
  have hl := lv_entry ([.ref h0, .int a1]) (n := 4) (Nat.le_of_ble_eq_true rfl)
  rw [lg_entry_eq]
  generalize (lg_sl ([.ref h0, .int a1]) ++ List.replicate (4 - (lg_sl ([.ref h0, .int a1])).length) Slot.unset).toArray = ls at hl ⊢
  obtain ⟨H, hHe⟩ : ∃ H, H = s.heap := ⟨_, rfl⟩
  rw [← hHe] at hP ⊢
  have hS : va_S A s.heap H [] := by rw [hHe]; exact hS
  have hl : lv_has ls 4 [(0, .ref h0), (1, .int a1)] := hl
  refine lv_aload_n hx hb dX13_count_0 rfl (lv_at hl 0 rfl) ?_
  refine lv_iconst (v := 0) hx hb dX13_count_1 (by decide) ?_
  refine kq_put [(1, .int 0), (3, .int 0), (110, .int 0), (123, .int 0)] hts iX13 tyX13 tyX13_ok nmX13 hx hb hown hK hP hD hS 0 rfl rfl hJ 1 (by decide) (by decide) (hts _ (bP 135 rfl)) rfl (ty := .int) (by decide +kernel) (v := .int 0) rfl rfl dX13_count_2 (fun f h => kJ_put h _ _ (by decide)) (fun H locs fs hJ hP hD hS => ?_)
  have hP : va_P (dC, dI) vwCl [(h0, .inr (13, fs))] H := hP
  have hD : va_D A [(h0, .inr (13, fs))] := hD
  refine lv_iload_n hx hb dX13_count_5 rfl (lv_at hl 1 rfl) ?_
  refine lv_iconst (v := 5) hx hb dX13_count_6 (by decide) ?_
  refine lv_icmp_lt (tgt := 30) hx hb dX13_count_7 (by decide) (fun h7 => ?_) (fun h7 => ?_)
  · refine lv_iload_n hx hb dX13_count_30 rfl (lv_at hl 1 rfl) ?_
    by_cases h9 : a1 < 0
    · refine lv_tableOut (tgt := 242) hx hb dX13_count_31 (Or.inl (k_lo h9)) (by decide) ?_
      refine lv_iconst (v := (-1)) hx hb dX13_count_242 (by decide) ?_
      exact W.iret (v := (-1)) hx hb hr (fun t ht hW => ⟨⟨(-1), (), rfl, by first | rfl | exact cnt1 h9 | exact cnt2 h13 | exact cnt3 h7 h13 | exact hw, trivial⟩, hS.F ht⟩) hS.2.2 dX13_count_243
    · rcases i5 h9 h7 with h | h | h | h | h <;> subst h
      · refine lv_tableIn (tgt := 100) hx hb dX13_count_31 (by decide) (by decide) rfl (by decide) ?_
        refine lv_aload_n hx hb dX13_count_100 rfl (lv_at hl 0 rfl) ?_
        refine va_get (D := (dC, dI)) (ci := 13) (v := .int 0) (C := RX13) (T := TX13) (N := 180) hx hb hts iX13 hown hK hP 0 rfl rfl 110 (by decide) (hts _ (bP 141 rfl)) (fun _ h9 => h9) (kJ_at hJ 2 rfl) dX13_count_101 ?_
        refine lv_if_eq (tgt := 114) hx hb dX13_count_104 (by decide) (fun _ => ?_) (fun h => absurd h (by decide))
        refine lv_iconst (v := 0) hx hb dX13_count_114 (by decide) ?_
        exact W.iret (v := 0) hx hb hr (fun t ht hW => ⟨⟨0, (), rfl, by first | rfl | exact cnt1 h9 | exact cnt2 h13 | exact cnt3 h7 h13 | exact hw, trivial⟩, hS.F ht⟩) hS.2.2 dX13_count_115
      · refine lv_tableIn (tgt := 116) hx hb dX13_count_31 (by decide) (by decide) rfl (by decide) ?_
        refine lv_aload_n hx hb dX13_count_116 rfl (lv_at hl 0 rfl) ?_
        refine va_get (D := (dC, dI)) (ci := 13) (v := .int 0) (C := RX13) (T := TX13) (N := 180) hx hb hts iX13 hown hK hP 0 rfl rfl 110 (by decide) (hts _ (bP 141 rfl)) (fun _ h9 => h9) (kJ_at hJ 2 rfl) dX13_count_117 ?_
        refine lv_if_eq (tgt := 130) hx hb dX13_count_120 (by decide) (fun _ => ?_) (fun h => absurd h (by decide))
        refine lv_iconst (v := 0) hx hb dX13_count_130 (by decide) ?_
        exact W.iret (v := 0) hx hb hr (fun t ht hW => ⟨⟨0, (), rfl, by first | rfl | exact cnt1 h9 | exact cnt2 h13 | exact cnt3 h7 h13 | exact hw, trivial⟩, hS.F ht⟩) hS.2.2 dX13_count_131
      · refine lv_tableIn (tgt := 132) hx hb dX13_count_31 (by decide) (by decide) rfl (by decide) ?_
        refine lv_aload_n hx hb dX13_count_132 rfl (lv_at hl 0 rfl) ?_
        refine va_get (D := (dC, dI)) (ci := 13) (v := .int 0) (C := RX13) (T := TX13) (N := 180) hx hb hts iX13 hown hK hP 0 rfl rfl 110 (by decide) (hts _ (bP 141 rfl)) (fun _ h9 => h9) (kJ_at hJ 2 rfl) dX13_count_133 ?_
        refine lv_if_eq (tgt := 146) hx hb dX13_count_136 (by decide) (fun _ => ?_) (fun h => absurd h (by decide))
        refine lv_iconst (v := 0) hx hb dX13_count_146 (by decide) ?_
        exact W.iret (v := 0) hx hb hr (fun t ht hW => ⟨⟨0, (), rfl, by first | rfl | exact cnt1 h9 | exact cnt2 h13 | exact cnt3 h7 h13 | exact hw, trivial⟩, hS.F ht⟩) hS.2.2 dX13_count_147
      · refine lv_tableIn (tgt := 148) hx hb dX13_count_31 (by decide) (by decide) rfl (by decide) ?_
        refine lv_aload_n hx hb dX13_count_148 rfl (lv_at hl 0 rfl) ?_
        refine va_get (D := (dC, dI)) (ci := 13) (v := .int 0) (C := RX13) (T := TX13) (N := 180) hx hb hts iX13 hown hK hP 0 rfl rfl 3 (by decide) (hts _ (bP 139 rfl)) (fun _ h9 => h9) (kJ_at hJ 1 rfl) dX13_count_149 ?_
        exact W.iret (v := 0) hx hb hr (fun t ht hW => ⟨⟨0, (), rfl, by first | rfl | exact cnt1 h9 | exact cnt2 h13 | exact cnt3 h7 h13 | exact hw, trivial⟩, hS.F ht⟩) hS.2.2 dX13_count_152
      · refine lv_tableIn (tgt := 153) hx hb dX13_count_31 (by decide) (by decide) rfl (by decide) ?_
        refine lv_aload_n hx hb dX13_count_153 rfl (lv_at hl 0 rfl) ?_
        have hPc := hP.sub (ws' := [(h0, .inr (13, fs))]) [0] rfl
        have hDc := hD.sub (ws' := [(h0, .inr (13, fs))]) [0] (by decide) rfl
        have hKc := hK.sub (tys' := []) [] rfl
        have hFc := va_free (wc := [(h0, .inr (13, fs))]) hD hS hA [0] rfl
        refine va_calli (va_runV (As := []) (rest := []) ⟨hx, hb, hml, hown, hts⟩ (c_M_state l dC dI h0 H.size fs) (cwV 0 hts (gV (y := yX13_state) _ 146 147 148 149 144 rfl rfl rfl rfl rfl) rfl rfl rfl (by decide +kernel) ⟨Nat.le_of_ble_eq_true rfl, Nat.le_of_ble_eq_true rfl⟩) ⟨fun a U g mk q => by obtain ⟨q0, q1, qJ, qP, qK, qD⟩ := q; exact ⟨q0, q1, qJ, qP, va_K.moved (u := U) (U := U.calling g mk a) (Vm.Alike.refl U.vm) qK, qD⟩, va_recv hKc hPc (ci := 13) (q0 := 0) rfl rfl, fun U hU hW => ⟨rfl, by rw [hU], kJ_sub hJ (by simp), by rw [hU]; exact hPc, va_K.moved hW.alike hKc, hDc.weaken (fun _ _ _ _ => trivial)⟩⟩ rfl rfl hl.1 rfl (lv_room (Nat.le_of_ble_eq_true rfl)) dX13_count_154 ⟨by simp, by simp⟩) hS (fun q _ h => hFc q h) hFc (fun r u t H locs ht hvm hw hB hz1 hk1 hS => ?_)
        exact W.iret (v := r) hx hb hr (fun t ht hW => ⟨⟨r, (), rfl, by first | rfl | exact cnt1 h9 | exact cnt2 h13 | exact cnt3 h7 h13 | exact hw, trivial⟩, hS.F ht⟩) hS.2.2 dX13_count_157
  · refine lv_iload_n hx hb dX13_count_10 rfl (lv_at hl 1 rfl) ?_
    refine lv_bipush (v := 13) hx hb dX13_count_11 (by decide) ?_
    refine lv_icmp_gt (tgt := 30) hx hb dX13_count_13 (by decide) (fun h13 => ?_) (fun h13 => ?_)
    · refine lv_iload_n hx hb dX13_count_30 rfl (lv_at hl 1 rfl) ?_
      refine lv_tableOut (tgt := 242) hx hb dX13_count_31 (Or.inr (k_hi h13)) (by decide) ?_
      refine lv_iconst (v := (-1)) hx hb dX13_count_242 (by decide) ?_
      exact W.iret (v := (-1)) hx hb hr (fun t ht hW => ⟨⟨(-1), (), rfl, by first | rfl | exact cnt1 h9 | exact cnt2 h13 | exact cnt3 h7 h13 | exact hw, trivial⟩, hS.F ht⟩) hS.2.2 dX13_count_243
    · refine lv_iload_n hx hb dX13_count_16 rfl (lv_at hl 1 rfl) ?_
      refine lv_iconst (v := 4) hx hb dX13_count_17 (by decide) ?_
      refine lv_icmp_eq (tgt := 30) hx hb dX13_count_18 (by decide) (fun h18 => ?_) (fun h18 => ?_)
      · refine lv_iload_n hx hb dX13_count_30 rfl (lv_at hl 1 rfl) ?_
        exact absurd (h18 ▸ (by decide : (4 : Int32) < 5)) h7
      · refine lv_aload_n hx hb dX13_count_21 rfl (lv_at hl 0 rfl) ?_
        refine va_get (D := (dC, dI)) (ci := 13) (v := .int 0) (C := RX13) (T := TX13) (N := 180) hx hb hts iX13 hown hK hP 0 rfl rfl 123 (by decide) (hts _ (bP 136 rfl)) (fun _ h9 => h9) (kJ_at hJ 3 rfl) dX13_count_22 ?_
        refine lv_if_ne (tgt := 30) hx hb dX13_count_25 (by decide) (fun h => absurd h (by decide)) (fun _ => ?_)
        refine lv_iconst (v := 0) hx hb dX13_count_28 (by decide) ?_
        exact W.iret (v := 0) hx hb hr (fun t ht hW => ⟨⟨0, (), rfl, by first | rfl | exact cnt1 h9 | exact cnt2 h13 | exact cnt3 h7 h13 | exact hw, trivial⟩, hS.F ht⟩) hS.2.2 dX13_count_29
end
section
/-! an exception that is there already is thrown; exceptions that are caught by name, in the first row or in the second -/
section KT
variable {p : Program} {l : Launch} {e : Env} {R : Room} {s : State} {m : MethodId} {args : Array Value} {below : List Frame} {meth : Method} {c : Code} {H : Heap} {locs : List Loc} {cells slots : Nat} {Q : State → Prop}
variable {cc : ByteArray} {pc : Nat} {ls : Array Slot} {rest : List Value}
theorem k_athrow (hexec : p.tables.exec = Jvm.exec) (hb : c.code = cc) {q : Nat} (hdg : decode cc pc = .ok (.athrow, 1)) (kk : vx_W p l e R s m args below meth c H locs cells slots Q (F0 m pc ls rest) q) : W p l e R s m args below meth c H locs cells slots Q (F0 m pc ls (.ref q :: rest)) := by
  intro T hT X
  obtain ⟨t, a1, b1⟩ := kk T hT X
  refine ⟨t, ?_, b1⟩
  jvm_step X.here [X.here.top, hexec, hb, hdg, athrow.wp_sem]
  exact a1
/-- the search for a handler in S ends at pc, the tables are vm' then -/
def kF (e : Env) (S : State) (f : JFrame) (a : Addr) (h : Handler) (vm' : Vm) : Prop := ∀ (Q : Handler → Pre) (E : CtlPost) (d : Bool) (acts : List Action), wp (findHandler f a) Q E e d acts S ↔ Q h d acts (S.setVm vm')
/-- one row whose class links: it takes the object, or the search goes on behind it -/
theorem kF_row {Q : Handler → Pre} {E : CtlPost} {d : Bool} {acts : List Action} {S : State} {f : JFrame} {a : Addr} {x : ExceptionTableEntry} {t : List ExceptionTableEntry} {k : ClassId} {cell : Cell} (hx : covers x f.pc = true) (h0 : x.catchType ≠ 0)
    (hl : S.vm.ClassLinks e.platform f.method.cls x.catchType k) (hcell : S.heap[a]? = some cell) (hobj : ∀ z, cell.vm ≠ .statics z) (hk : ∃ z, S.vm.classes[cell.cls]? = some z) (hc : ∃ z, S.vm.classes[k]? = some z) :
    wp (findHandler.go f a (x :: t)) Q E e d acts S ↔ if S.vm.assignable cell.cls k = true then Q (.found x.handlerPc) d acts (S.setVm (S.vm.noted f.method.cls x.catchType (.cls k))) else wp (findHandler.go f a t) Q E e d acts (S.setVm (S.vm.noted f.method.cls x.catchType (.cls k))) := by
  simp only [covers] at hx
  obtain ⟨ha, ht⟩ := (resolveClass_links e.toSetting hl).op (op := VmOp.resolveClass f.method.cls x.catchType) rfl
  have hal : S.vm.Alike (S.vm.noted f.method.cls x.catchType (.cls k)) := (Vm.Alike.refl S.vm).noted _ _ _
  obtain ⟨z1, hz1⟩ := hk
  obtain ⟨z2, hz2⟩ := hc
  obtain ⟨y1, hy1, -⟩ := hal.2.2 _ _ hz1
  obtain ⟨y2, hy2, -⟩ := hal.2.2 _ _ hz2
  have has := hal.assignable cell.cls k
  cases hb : S.vm.assignable cell.cls k
  · rw [hb] at has
    simp [findHandler.go, hx, h0, ha, ht, hcell, hobj, hy1, hy2, has, VmOp.dirties, VmOp.acts]
  · rw [hb] at has
    simp [findHandler.go, hx, h0, ha, ht, hcell, hobj, hy1, hy2, has, VmOp.dirties, VmOp.acts]
theorem kF_step {S : State} {a : Addr} {f : JFrame} {r : List Frame} {pc : Nat} {vm' : Vm} (hfind : kF e S f a (.found pc) vm') : (stepThrowing e S a (.java f :: r)).Is ((S.setVm vm').setFrames (.java { f with pc := pc, stack := [.ref a] } :: r)) [] := by
  simp only [stepThrowing, searchFrame, vmDo]
  generalize hr : Sem.go _ e false [] S = res
  obtain ⟨as, rfl, ha⟩ := Sem.eq_ok_of hr (a := Handler.found pc) (s' := S.setVm vm') (acts' := []) (by simp [hfind _ _ _ _])
  exact ⟨rfl, ha⟩
theorem kF_set (u : State) (vm' : Vm) (F G : List Frame) : ((u.setFrames F).setVm vm').setFrames G = (u.setVm vm').setFrames G := by
  rw [show (u.setFrames F).setVm vm' = (u.setVm vm').setFrames F from rfl, State.setFrames_setFrames]
theorem kF_steps {tb : Tables} {S target : State} {g : JFrame} {a : Addr} (h : At S g.method c below) {pc : Nat} {vm' : Vm} (hfind : kF e ((S.setTop g).pushFrame (.throwing a)) g a (.found pc) vm') (hrest : Steps tb e below ((S.setVm vm').setTop { g with pc := pc, stack := [.ref a] }) target) :
    Steps tb e below ((S.setTop g).pushFrame (.throwing a)) target := by
  obtain ⟨hgo, hw⟩ := h.throwing a
  refine Steps.head hgo hw ?_
  rw [stepThread_throwing (frames_entered h.top _), (kF_step (S := (S.setTop g).pushFrame (.throwing a)) hfind).1]
  obtain ⟨g₀, hg⟩ := Option.isSome_iff_exists.mp h.top
  obtain ⟨r, hr⟩ := State.topJava?_eq_some.mp hg
  have hr' : (S.setVm vm').frames = .java g₀ :: r := hr
  rw [State.setTop_of_frames _ hr'] at hrest
  rw [hr, List.tail_cons, State.pushFrame, kF_set, State.setTop_of_frames _ hr, kF_set]
  exact hrest
/-- a class that an entry of this class links to, in a later state -/
theorem kF_link {T : State} (X : Stand p l e R s m args below meth c T locs cells slots) {own name : String} (hown : s.vm.findClass own = some m.cls) {i : Nat} (hlink : (Cond.classLink own i name).before args s = true) {k : ClassId} (hk : s.vm.findClass name = some k) {vm1 : Vm} (hW : s.WarmedH vm1) :
    vm1.ClassLinks e.platform m.cls i k ∧ (∃ z, vm1.classes[k]? = some z) ∧ s.WarmedH (vm1.noted m.cls i (.cls k)) := by
  have hpl : e.platform.magicAccessors = ({} : Platform).magicAccessors := by rw [X.admits.platform]
  obtain ⟨c5, hc5, hcl5⟩ := Cond.classLink_spec hown hlink e.platform hpl
  cases Option.some.inj (hk.symm.trans hc5)
  obtain ⟨dk, _, _, kt, hd, _, _, _, _, hkt, _, hopen⟩ := hcl5.here
  obtain ⟨kt', hkt', -⟩ := hW.alike.2.2 _ _ hkt
  exact ⟨hW.classLinks hcl5, ⟨kt', hkt'⟩, hW.noted hd hopen (State.rightAt_cls hcl5)⟩
/-- caught by the first row -/
theorem k_catchA {own name : String} {E : String} {ce : Cell} {q : Addr} (hown : s.vm.findClass own = some m.cls) (x : ExceptionTableEntry) (suf : List ExceptionTableEntry) (hsplit : c.exceptionTable.toList = x :: suf) (hx : covers x pc = true) (h0 : x.catchType ≠ 0)
    (hlink : (Cond.classLink own x.catchType name).before args s = true) (hcast : (Cond.castable E name).before args s = true) (hcell : H[q]? = some ce) (hv : ce.vm = .none) (hcl : s.vm.findClass E = some ce.cls)
    (kk : W p l e R s m args below meth c H locs cells slots Q (F0 m x.handlerPc ls [.ref q])) : vx_W p l e R s m args below meth c H locs cells slots Q (F0 m pc ls rest) q := by
  intro T hT X
  obtain ⟨c3, c4, hc3, hc4, hasg⟩ := Cond.castable_spec hcast
  cases Option.some.inj (hc3.symm.trans hcl)
  obtain ⟨h1, h2, h3⟩ := kF_link X hown hlink hc4 X.warmed
  obtain ⟨k9, h9, -⟩ := Vm.findClass_spec hcl
  obtain ⟨k8, h8, -⟩ := X.warmed.alike.2.2 _ _ h9
  have hf : kF e ((T.setTop (F0 m pc ls rest)).pushFrame (.throwing q)) (F0 m pc ls rest) q (.found x.handlerPc) (T.vm.noted m.cls x.catchType (.cls c4)) := by
    intro Q1 E1 d acts
    rw [W.findHandler_eq (meth := meth) (code := c) X.method' X.code, hsplit]
    refine (kF_row (e := e) (S := (T.setTop (F0 m pc ls rest)).pushFrame (.throwing q)) (f := F0 m pc ls rest) (a := q) (k := c4) (cell := ce) hx h0 h1 (by show T.heap[q]? = some ce; rw [hT]; exact hcell) (by intro z; rw [hv]; intro h; cases h) ⟨k8, h8⟩ h2).trans ?_
    rw [if_pos (by show T.vm.assignable ce.cls c4 = true; rw [X.warmed.alike.assignable]; exact hasg)]
    exact Iff.rfl
  obtain ⟨t, a1, b1⟩ := kk (T.setVm (T.vm.noted m.cls x.catchType (.cls c4))) hT (X.noted h3)
  exact ⟨t, kF_steps X.here hf a1, b1⟩
/-- caught by the second row: the first one names a class that doesn't take it -/
theorem k_catchB {own name name1 : String} {E : String} {ce : Cell} {q : Addr} (hown : s.vm.findClass own = some m.cls) (y x : ExceptionTableEntry) (suf : List ExceptionTableEntry) (hsplit : c.exceptionTable.toList = y :: x :: suf) (hy : covers y pc = true) (hy0 : y.catchType ≠ 0) (hylink : (Cond.classLink own y.catchType name1).before args s = true)
    (hno : ∀ c1 c2, s.vm.findClass E = some c1 → s.vm.findClass name1 = some c2 → s.vm.assignable c1 c2 = false) {k1 : ClassId} (hk1 : s.vm.findClass name1 = some k1) (hx : covers x pc = true) (h0 : x.catchType ≠ 0)
    (hlink : (Cond.classLink own x.catchType name).before args s = true) (hcast : (Cond.castable E name).before args s = true) (hcell : H[q]? = some ce) (hv : ce.vm = .none) (hcl : s.vm.findClass E = some ce.cls)
    (kk : W p l e R s m args below meth c H locs cells slots Q (F0 m x.handlerPc ls [.ref q])) : vx_W p l e R s m args below meth c H locs cells slots Q (F0 m pc ls rest) q := by
  intro T hT X
  obtain ⟨c3, c4, hc3, hc4, hasg⟩ := Cond.castable_spec hcast
  cases Option.some.inj (hc3.symm.trans hcl)
  obtain ⟨g1, g2, g3⟩ := kF_link X hown hylink hk1 X.warmed
  obtain ⟨h1, h2, h3⟩ := kF_link X hown hlink hc4 g3
  obtain ⟨k9, h9, -⟩ := Vm.findClass_spec hcl
  obtain ⟨k8, h8, -⟩ := X.warmed.alike.2.2 _ _ h9
  obtain ⟨k7, h7, -⟩ := g3.alike.2.2 _ _ h9
  have hf : kF e ((T.setTop (F0 m pc ls rest)).pushFrame (.throwing q)) (F0 m pc ls rest) q (.found x.handlerPc) ((T.vm.noted m.cls y.catchType (.cls k1)).noted m.cls x.catchType (.cls c4)) := by
    intro Q1 E1 d acts
    rw [W.findHandler_eq (meth := meth) (code := c) X.method' X.code, hsplit]
    refine (kF_row (e := e) (S := (T.setTop (F0 m pc ls rest)).pushFrame (.throwing q)) (f := F0 m pc ls rest) (a := q) (k := k1) (cell := ce) hy hy0 g1 (by show T.heap[q]? = some ce; rw [hT]; exact hcell) (by intro z; rw [hv]; intro h; cases h) ⟨k8, h8⟩ g2).trans ?_
    rw [if_neg (by show ¬ T.vm.assignable ce.cls k1 = true; rw [X.warmed.alike.assignable, hno _ _ hcl hk1]; decide)]
    refine (kF_row (e := e) (S := ((T.setTop (F0 m pc ls rest)).pushFrame (.throwing q)).setVm (T.vm.noted m.cls y.catchType (.cls k1))) (f := F0 m pc ls rest) (a := q) (k := c4) (cell := ce) hx h0 h1 (by show T.heap[q]? = some ce; rw [hT]; exact hcell) (by intro z; rw [hv]; intro h; cases h) ⟨k7, h7⟩ h2).trans ?_
    rw [if_pos (by show (T.vm.noted m.cls y.catchType (.cls k1)).assignable ce.cls c4 = true; rw [g3.alike.assignable]; exact hasg)]
    exact Iff.rfl
  obtain ⟨t, a1, b1⟩ := kk (T.setVm ((T.vm.noted m.cls y.catchType (.cls k1)).noted m.cls x.catchType (.cls c4))) hT (X.noted h3)
  exact ⟨t, kF_steps X.here hf a1, b1⟩
end KT
end
section
/-! feed of the reference -/
theorem dX13_feed_0 : decode cX13_feed 0 = .ok (.aload_n 0, 1) := by decide +kernel
theorem dX13_feed_1 : decode cX13_feed 1 = .ok (.iconst 0, 1) := by decide +kernel
theorem dX13_feed_2 : decode cX13_feed 2 = .ok (.putfield 451, 3) := by decide +kernel
theorem dX13_feed_5 : decode cX13_feed 5 = .ok (.aload_n 0, 1) := by decide +kernel
theorem dX13_feed_6 : decode cX13_feed 6 = .ok (.getfield 455, 3) := by decide +kernel
theorem dX13_feed_9 : decode cX13_feed 9 = .ok (.bipush 20, 2) := by decide +kernel
theorem dX13_feed_11 : decode cX13_feed 11 = .ok (.iadd, 1) := by decide +kernel
theorem dX13_feed_12 : decode cX13_feed 12 = .ok (.sipush 6000, 3) := by decide +kernel
theorem dX13_feed_15 : decode cX13_feed 15 = .ok (.if_icmp .le 5, 3) := by decide +kernel
theorem dX13_feed_20 : decode cX13_feed 20 = .ok (.aload_n 0, 1) := by decide +kernel
theorem dX13_feed_21 : decode cX13_feed 21 = .ok (.iload_n 1, 1) := by decide +kernel
theorem dX13_feed_22 : decode cX13_feed 22 = .ok (.invokevirtual 458, 3) := by decide +kernel
theorem dX13_feed_25 : decode cX13_feed 25 = .ok (.aload_n 0, 1) := by decide +kernel
theorem dX13_feed_26 : decode cX13_feed 26 = .ok (.iload_n 2, 1) := by decide +kernel
theorem dX13_feed_27 : decode cX13_feed 27 = .ok (.invokevirtual 458, 3) := by decide +kernel
theorem dX13_feed_30 : decode cX13_feed 30 = .ok (.aload_n 0, 1) := by decide +kernel
theorem dX13_feed_31 : decode cX13_feed 31 = .ok (.iload_n 3, 1) := by decide +kernel
theorem dX13_feed_32 : decode cX13_feed 32 = .ok (.invokevirtual 458, 3) := by decide +kernel
theorem dX13_feed_35 : decode cX13_feed 35 = .ok (.aload_n 0, 1) := by decide +kernel
theorem dX13_feed_36 : decode cX13_feed 36 = .ok (.iload 4, 2) := by decide +kernel
theorem dX13_feed_38 : decode cX13_feed 38 = .ok (.invokevirtual 458, 3) := by decide +kernel
theorem dX13_feed_41 : decode cX13_feed 41 = .ok (.aload_n 0, 1) := by decide +kernel
theorem dX13_feed_42 : decode cX13_feed 42 = .ok (.iload 5, 2) := by decide +kernel
theorem dX13_feed_44 : decode cX13_feed 44 = .ok (.invokevirtual 458, 3) := by decide +kernel
theorem dX13_feed_47 : decode cX13_feed 47 = .ok (.aload_n 0, 1) := by decide +kernel
theorem dX13_feed_48 : decode cX13_feed 48 = .ok (.getfield 455, 3) := by decide +kernel
theorem dX13_feed_51 : decode cX13_feed 51 = .ok (.ireturn, 1) := by decide +kernel
theorem dX13_put_0 : decode cX13_put 0 = .ok (.bipush 24, 2) := by decide +kernel
theorem dX13_put_2 : decode cX13_put 2 = .ok (.istore_n 2, 1) := by decide +kernel
theorem dX13_put_3 : decode cX13_put 3 = .ok (.iload_n 2, 1) := by decide +kernel
theorem dX13_put_4 : decode cX13_put 4 = .ok (.ifCond .lt 35, 3) := by decide +kernel
theorem dX13_put_7 : decode cX13_put 7 = .ok (.aload_n 0, 1) := by decide +kernel
theorem dX13_put_8 : decode cX13_put 8 = .ok (.getfield 16, 3) := by decide +kernel
theorem dX13_put_11 : decode cX13_put 11 = .ok (.aload_n 0, 1) := by decide +kernel
theorem dX13_put_12 : decode cX13_put 12 = .ok (.getfield 455, 3) := by decide +kernel
theorem dX13_put_15 : decode cX13_put 15 = .ok (.iload_n 1, 1) := by decide +kernel
theorem dX13_put_16 : decode cX13_put 16 = .ok (.iload_n 2, 1) := by decide +kernel
theorem dX13_put_17 : decode cX13_put 17 = .ok (.ishr, 1) := by decide +kernel
theorem dX13_put_18 : decode cX13_put 18 = .ok (.sipush 255, 3) := by decide +kernel
theorem dX13_put_21 : decode cX13_put 21 = .ok (.iand, 1) := by decide +kernel
theorem dX13_put_22 : decode cX13_put 22 = .ok (.iastore, 1) := by decide +kernel
theorem dX13_put_23 : decode cX13_put 23 = .ok (.aload_n 0, 1) := by decide +kernel
theorem dX13_put_24 : decode cX13_put 24 = .ok (.dup, 1) := by decide +kernel
theorem dX13_put_25 : decode cX13_put 25 = .ok (.getfield 455, 3) := by decide +kernel
theorem dX13_put_28 : decode cX13_put 28 = .ok (.iconst 1, 1) := by decide +kernel
theorem dX13_put_29 : decode cX13_put 29 = .ok (.iadd, 1) := by decide +kernel
theorem dX13_put_30 : decode cX13_put 30 = .ok (.putfield 455, 3) := by decide +kernel
theorem dX13_put_33 : decode cX13_put 33 = .ok (.iinc 2 (-8), 3) := by decide +kernel
theorem dX13_put_36 : decode cX13_put 36 = .ok (.goto (-33), 3) := by decide +kernel
theorem dX13_put_39 : decode cX13_put 39 = .ok (.return_, 1) := by decide +kernel
set_option maxHeartbeats 4000000 in
set_option maxRecDepth 100000 in
/-- put(v): four bytes more -/
theorem c_M_put (l : Launch) (dC : Nat → ClassId) (dI : Nat → Nat → Nat) (h0 sz : Nat) (fs : List Value) (q2 : Nat) (c2 : ClassId) (f : Nat → Int32) (n : Nat) (a1 : Int32) : Met l yX13_put (.code yX13_put cX13_put 3 none :: wP) ({ frames := 0, cells := 0, slots := 0, locals := 0 }) (va_Pc [.ref h0, .int a1] (fun U => U.heap.size = sz ∧ kJ 180 [(2, .ref q2), (3, .int (nI (n)))] fs ∧ n + 4 ≤ 6000 ∧ va_P (dC, dI) vwCl [(h0, .inr (13, fs)), (q2, .inl (c2, 6000, .inl f))] U.heap ∧ va_K (dC, dI) vwCl [(c2, .int)] U ∧ va_D (fun _ => True) [(h0, .inr (13, fs)), (q2, .inl (c2, 6000, .inl f))])) (va_Qv (fun u : List Value × (Nat → Int32) => kJ 180 [(3, .int (nI (n + 4))), (2, .ref q2)] u.1) (fun (u : List Value × (Nat → Int32)) (t : State) => va_P (dC, dI) vwCl [(h0, .inr (13, u.1)), (q2, .inl (c2, 6000, .inl u.2))] t.heap ∧ va_K (dC, dI) vwCl [(c2, .int)] t ∧ va_D (va_A [(h0, .inr (13, fs)), (q2, .inl (c2, 6000, .inl f))] sz) [(h0, .inr (13, u.1)), (q2, .inl (c2, 6000, .inl u.2))]) (va_A [(h0, .inr (13, fs)), (q2, .inl (c2, 6000, .inl f))] sz)) 0 0 (va_A [(h0, .inr (13, fs)), (q2, .inl (c2, 6000, .inl f))] sz) := by
  refine Met.ofW (cc := cX13_put) (maxL := 3) (ret := none) (by decide) rfl ?_
  intro p e s m args below meth c s₁ B hml hv
  obtain ⟨rfl, hsz, hJ, hn, hP, hK, hD0⟩ := hv
  have hx := B.exec
  have hb := B.bytes
  have hr := B.returns
  have hts := atoms_spec (ws := .code yX13_put cX13_put 3 none :: wP) B.pre
  have hown : s.vm.findClass RX13 = some m.cls := findClass_of_methodNamed B.named
  subst hsz
  have hD := hD0.self (sz := s.heap.size)
  generalize hAe : va_A [(h0, .inr (13, fs)), (q2, .inl (c2, 6000, .inl f))] s.heap.size = A at hD ⊢
  have hA : ∀ q : Nat, s.heap.size ≤ q → A q := fun q h => by rw [← hAe]; exact Or.inr h
  have hS : va_S A s.heap s.heap [] := va_S.rf
  have hl := lv_entry ([.ref h0, .int a1]) (n := 3) (Nat.le_of_ble_eq_true rfl)
  rw [lg_entry_eq]
  generalize (lg_sl ([.ref h0, .int a1]) ++ List.replicate (3 - (lg_sl ([.ref h0, .int a1])).length) Slot.unset).toArray = ls at hl ⊢
  obtain ⟨H, hHe⟩ : ∃ H, H = s.heap := ⟨_, rfl⟩
  rw [← hHe] at hP ⊢
  have hS : va_S A s.heap H [] := by rw [hHe]; exact hS
  have hl : lv_has ls 3 [(0, .ref h0), (1, .int a1)] := hl
  refine lv_bipush (v := 24) hx hb dX13_put_0 (by decide) ?_
  refine lv_istore_n (lv' := [(2, .int 24), (0, .ref h0), (1, .int a1)]) hx hb dX13_put_2 rfl hl (by decide) rfl (fun ls hl => ?_)
  refine lv_iload_n hx hb dX13_put_3 rfl (lv_at hl 0 rfl) ?_
  refine lv_if_lt (tgt := 39) hx hb dX13_put_4 (by decide) (fun h => absurd h (by decide)) (fun _ => ?_)
  refine lv_aload_n hx hb dX13_put_7 rfl (lv_at hl 1 rfl) ?_
  refine va_get (D := (dC, dI)) (ci := 13) (v := .ref q2) (C := RX13) (T := TX13) (N := 180) hx hb hts iX13 hown hK hP 0 rfl rfl 2 (by decide) (hts _ (bP 8 rfl)) (fun _ h9 => h9) (kJ_at hJ 0 rfl) dX13_put_8 ?_
  refine lv_aload_n hx hb dX13_put_11 rfl (lv_at hl 1 rfl) ?_
  refine va_get (D := (dC, dI)) (ci := 13) (v := .int (nI (n))) (C := RX13) (T := TX13) (N := 180) hx hb hts iX13 hown hK hP 0 rfl rfl 3 (by decide) (hts _ (bP 139 rfl)) (fun _ h9 => h9) (kJ_at hJ 1 rfl) dX13_put_12 ?_
  refine lv_iload_n hx hb dX13_put_15 rfl (lv_at hl 2 rfl) ?_
  refine lv_iload_n hx hb dX13_put_16 rfl (lv_at hl 0 rfl) ?_
  refine lv_ishr hx hb dX13_put_17 ?_
  refine lv_topi (fun z1 ez1 => ?_)
  refine lv_sipush (v := 255) hx hb dX13_put_18 (by decide) ?_
  refine lv_iand hx hb dX13_put_21 ?_
  refine lv_topi (fun z2 ez2 => ?_)
  refine kq_iast hx hb hK hP hD hS 1 0 rfl rfl (vp_in_nI (by omega) (by decide)) dX13_put_22 (fun H locs f ef hP hD hS => ?_)
  have hP : va_P (dC, dI) vwCl [(h0, .inr (13, fs)), (q2, .inl (c2, 6000, .inl f))] H := hP
  have hD : va_D A [(h0, .inr (13, fs)), (q2, .inl (c2, 6000, .inl f))] := hD
  clear ez1 ez2 ef
  refine lv_aload_n hx hb dX13_put_23 rfl (lv_at hl 1 rfl) ?_
  refine lv_dup hx hb dX13_put_24 rfl ?_
  refine va_get (D := (dC, dI)) (ci := 13) (v := .int (nI (n))) (C := RX13) (T := TX13) (N := 180) hx hb hts iX13 hown hK hP 0 rfl rfl 3 (by decide) (hts _ (bP 139 rfl)) (fun _ h9 => h9) (kJ_at hJ 1 rfl) dX13_put_25 ?_
  refine lv_iconst (v := 1) hx hb dX13_put_28 (by decide) ?_
  refine lv_iadd hx hb dX13_put_29 ?_
  refine k_i (v := nI (n + 1)) (nI_1 _) ?_
  refine kq_put [(3, .int (nI (n + 1))), (2, .ref q2)] hts iX13 tyX13 tyX13_ok nmX13 hx hb hown hK hP hD hS 0 rfl rfl hJ 3 (by decide) (by decide) (hts _ (bP 139 rfl)) rfl (ty := .int) (by decide +kernel) (v := .int (nI (n + 1))) rfl rfl dX13_put_30 (fun f h => kJ_put h _ _ (by decide)) (fun H locs fs hJ hP hD hS => ?_)
  have hP : va_P (dC, dI) vwCl [(h0, .inr (13, fs)), (q2, .inl (c2, 6000, .inl f))] H := hP
  have hD : va_D A [(h0, .inr (13, fs)), (q2, .inl (c2, 6000, .inl f))] := hD
  refine lv_iinc (v := 16) (lv' := [(2, .int 16), (0, .ref h0), (1, .int a1)]) hx hb dX13_put_33 hl (k := 0) rfl (by decide) (by decide) rfl (fun ls hl => ?_)
  refine lv_goto (tgt := 3) hx hb dX13_put_36 (by decide) ?_
  refine lv_iload_n hx hb dX13_put_3 rfl (lv_at hl 0 rfl) ?_
  refine lv_if_lt (tgt := 39) hx hb dX13_put_4 (by decide) (fun h => absurd h (by decide)) (fun _ => ?_)
  refine lv_aload_n hx hb dX13_put_7 rfl (lv_at hl 1 rfl) ?_
  refine va_get (D := (dC, dI)) (ci := 13) (v := .ref q2) (C := RX13) (T := TX13) (N := 180) hx hb hts iX13 hown hK hP 0 rfl rfl 2 (by decide) (hts _ (bP 8 rfl)) (fun _ h9 => h9) (kJ_at hJ 1 rfl) dX13_put_8 ?_
  refine lv_aload_n hx hb dX13_put_11 rfl (lv_at hl 1 rfl) ?_
  refine va_get (D := (dC, dI)) (ci := 13) (v := .int (nI (n + 1))) (C := RX13) (T := TX13) (N := 180) hx hb hts iX13 hown hK hP 0 rfl rfl 3 (by decide) (hts _ (bP 139 rfl)) (fun _ h9 => h9) (kJ_at hJ 0 rfl) dX13_put_12 ?_
  refine lv_iload_n hx hb dX13_put_15 rfl (lv_at hl 2 rfl) ?_
  refine lv_iload_n hx hb dX13_put_16 rfl (lv_at hl 0 rfl) ?_
  refine lv_ishr hx hb dX13_put_17 ?_
  refine lv_topi (fun z1 ez1 => ?_)
  refine lv_sipush (v := 255) hx hb dX13_put_18 (by decide) ?_
  refine lv_iand hx hb dX13_put_21 ?_
  refine lv_topi (fun z2 ez2 => ?_)
  refine kq_iast hx hb hK hP hD hS 1 0 rfl rfl (vp_in_nI (by omega) (by decide)) dX13_put_22 (fun H locs f ef hP hD hS => ?_)
  have hP : va_P (dC, dI) vwCl [(h0, .inr (13, fs)), (q2, .inl (c2, 6000, .inl f))] H := hP
  have hD : va_D A [(h0, .inr (13, fs)), (q2, .inl (c2, 6000, .inl f))] := hD
  clear ez1 ez2 ef
  refine lv_aload_n hx hb dX13_put_23 rfl (lv_at hl 1 rfl) ?_
  refine lv_dup hx hb dX13_put_24 rfl ?_
  refine va_get (D := (dC, dI)) (ci := 13) (v := .int (nI (n + 1))) (C := RX13) (T := TX13) (N := 180) hx hb hts iX13 hown hK hP 0 rfl rfl 3 (by decide) (hts _ (bP 139 rfl)) (fun _ h9 => h9) (kJ_at hJ 0 rfl) dX13_put_25 ?_
  refine lv_iconst (v := 1) hx hb dX13_put_28 (by decide) ?_
  refine lv_iadd hx hb dX13_put_29 ?_
  refine k_i (v := nI (n + 2)) (nI_1 _) ?_
  refine kq_put [(3, .int (nI (n + 2))), (2, .ref q2)] hts iX13 tyX13 tyX13_ok nmX13 hx hb hown hK hP hD hS 0 rfl rfl hJ 3 (by decide) (by decide) (hts _ (bP 139 rfl)) rfl (ty := .int) (by decide +kernel) (v := .int (nI (n + 2))) rfl rfl dX13_put_30 (fun f h => kJ_put h _ _ (by decide)) (fun H locs fs hJ hP hD hS => ?_)
  have hP : va_P (dC, dI) vwCl [(h0, .inr (13, fs)), (q2, .inl (c2, 6000, .inl f))] H := hP
  have hD : va_D A [(h0, .inr (13, fs)), (q2, .inl (c2, 6000, .inl f))] := hD
  refine lv_iinc (v := 8) (lv' := [(2, .int 8), (0, .ref h0), (1, .int a1)]) hx hb dX13_put_33 hl (k := 0) rfl (by decide) (by decide) rfl (fun ls hl => ?_)
  refine lv_goto (tgt := 3) hx hb dX13_put_36 (by decide) ?_
  refine lv_iload_n hx hb dX13_put_3 rfl (lv_at hl 0 rfl) ?_
  refine lv_if_lt (tgt := 39) hx hb dX13_put_4 (by decide) (fun h => absurd h (by decide)) (fun _ => ?_)
  refine lv_aload_n hx hb dX13_put_7 rfl (lv_at hl 1 rfl) ?_
  refine va_get (D := (dC, dI)) (ci := 13) (v := .ref q2) (C := RX13) (T := TX13) (N := 180) hx hb hts iX13 hown hK hP 0 rfl rfl 2 (by decide) (hts _ (bP 8 rfl)) (fun _ h9 => h9) (kJ_at hJ 1 rfl) dX13_put_8 ?_
  refine lv_aload_n hx hb dX13_put_11 rfl (lv_at hl 1 rfl) ?_
  refine va_get (D := (dC, dI)) (ci := 13) (v := .int (nI (n + 2))) (C := RX13) (T := TX13) (N := 180) hx hb hts iX13 hown hK hP 0 rfl rfl 3 (by decide) (hts _ (bP 139 rfl)) (fun _ h9 => h9) (kJ_at hJ 0 rfl) dX13_put_12 ?_
  refine lv_iload_n hx hb dX13_put_15 rfl (lv_at hl 2 rfl) ?_
  refine lv_iload_n hx hb dX13_put_16 rfl (lv_at hl 0 rfl) ?_
  refine lv_ishr hx hb dX13_put_17 ?_
  refine lv_topi (fun z1 ez1 => ?_)
  refine lv_sipush (v := 255) hx hb dX13_put_18 (by decide) ?_
  refine lv_iand hx hb dX13_put_21 ?_
  refine lv_topi (fun z2 ez2 => ?_)
  refine kq_iast hx hb hK hP hD hS 1 0 rfl rfl (vp_in_nI (by omega) (by decide)) dX13_put_22 (fun H locs f ef hP hD hS => ?_)
  have hP : va_P (dC, dI) vwCl [(h0, .inr (13, fs)), (q2, .inl (c2, 6000, .inl f))] H := hP
  have hD : va_D A [(h0, .inr (13, fs)), (q2, .inl (c2, 6000, .inl f))] := hD
  clear ez1 ez2 ef
  refine lv_aload_n hx hb dX13_put_23 rfl (lv_at hl 1 rfl) ?_
  refine lv_dup hx hb dX13_put_24 rfl ?_
  refine va_get (D := (dC, dI)) (ci := 13) (v := .int (nI (n + 2))) (C := RX13) (T := TX13) (N := 180) hx hb hts iX13 hown hK hP 0 rfl rfl 3 (by decide) (hts _ (bP 139 rfl)) (fun _ h9 => h9) (kJ_at hJ 0 rfl) dX13_put_25 ?_
  refine lv_iconst (v := 1) hx hb dX13_put_28 (by decide) ?_
  refine lv_iadd hx hb dX13_put_29 ?_
  refine k_i (v := nI (n + 3)) (nI_1 _) ?_
  refine kq_put [(3, .int (nI (n + 3))), (2, .ref q2)] hts iX13 tyX13 tyX13_ok nmX13 hx hb hown hK hP hD hS 0 rfl rfl hJ 3 (by decide) (by decide) (hts _ (bP 139 rfl)) rfl (ty := .int) (by decide +kernel) (v := .int (nI (n + 3))) rfl rfl dX13_put_30 (fun f h => kJ_put h _ _ (by decide)) (fun H locs fs hJ hP hD hS => ?_)
  have hP : va_P (dC, dI) vwCl [(h0, .inr (13, fs)), (q2, .inl (c2, 6000, .inl f))] H := hP
  have hD : va_D A [(h0, .inr (13, fs)), (q2, .inl (c2, 6000, .inl f))] := hD
  refine lv_iinc (v := 0) (lv' := [(2, .int 0), (0, .ref h0), (1, .int a1)]) hx hb dX13_put_33 hl (k := 0) rfl (by decide) (by decide) rfl (fun ls hl => ?_)
  refine lv_goto (tgt := 3) hx hb dX13_put_36 (by decide) ?_
  refine lv_iload_n hx hb dX13_put_3 rfl (lv_at hl 0 rfl) ?_
  refine lv_if_lt (tgt := 39) hx hb dX13_put_4 (by decide) (fun h => absurd h (by decide)) (fun _ => ?_)
  refine lv_aload_n hx hb dX13_put_7 rfl (lv_at hl 1 rfl) ?_
  refine va_get (D := (dC, dI)) (ci := 13) (v := .ref q2) (C := RX13) (T := TX13) (N := 180) hx hb hts iX13 hown hK hP 0 rfl rfl 2 (by decide) (hts _ (bP 8 rfl)) (fun _ h9 => h9) (kJ_at hJ 1 rfl) dX13_put_8 ?_
  refine lv_aload_n hx hb dX13_put_11 rfl (lv_at hl 1 rfl) ?_
  refine va_get (D := (dC, dI)) (ci := 13) (v := .int (nI (n + 3))) (C := RX13) (T := TX13) (N := 180) hx hb hts iX13 hown hK hP 0 rfl rfl 3 (by decide) (hts _ (bP 139 rfl)) (fun _ h9 => h9) (kJ_at hJ 0 rfl) dX13_put_12 ?_
  refine lv_iload_n hx hb dX13_put_15 rfl (lv_at hl 2 rfl) ?_
  refine lv_iload_n hx hb dX13_put_16 rfl (lv_at hl 0 rfl) ?_
  refine lv_ishr hx hb dX13_put_17 ?_
  refine lv_topi (fun z1 ez1 => ?_)
  refine lv_sipush (v := 255) hx hb dX13_put_18 (by decide) ?_
  refine lv_iand hx hb dX13_put_21 ?_
  refine lv_topi (fun z2 ez2 => ?_)
  refine kq_iast hx hb hK hP hD hS 1 0 rfl rfl (vp_in_nI (by omega) (by decide)) dX13_put_22 (fun H locs f ef hP hD hS => ?_)
  have hP : va_P (dC, dI) vwCl [(h0, .inr (13, fs)), (q2, .inl (c2, 6000, .inl f))] H := hP
  have hD : va_D A [(h0, .inr (13, fs)), (q2, .inl (c2, 6000, .inl f))] := hD
  clear ez1 ez2 ef
  refine lv_aload_n hx hb dX13_put_23 rfl (lv_at hl 1 rfl) ?_
  refine lv_dup hx hb dX13_put_24 rfl ?_
  refine va_get (D := (dC, dI)) (ci := 13) (v := .int (nI (n + 3))) (C := RX13) (T := TX13) (N := 180) hx hb hts iX13 hown hK hP 0 rfl rfl 3 (by decide) (hts _ (bP 139 rfl)) (fun _ h9 => h9) (kJ_at hJ 0 rfl) dX13_put_25 ?_
  refine lv_iconst (v := 1) hx hb dX13_put_28 (by decide) ?_
  refine lv_iadd hx hb dX13_put_29 ?_
  refine k_i (v := nI (n + 4)) (nI_1 _) ?_
  refine kq_put [(3, .int (nI (n + 4))), (2, .ref q2)] hts iX13 tyX13 tyX13_ok nmX13 hx hb hown hK hP hD hS 0 rfl rfl hJ 3 (by decide) (by decide) (hts _ (bP 139 rfl)) rfl (ty := .int) (by decide +kernel) (v := .int (nI (n + 4))) rfl rfl dX13_put_30 (fun f h => kJ_put h _ _ (by decide)) (fun H locs fs hJ hP hD hS => ?_)
  have hP : va_P (dC, dI) vwCl [(h0, .inr (13, fs)), (q2, .inl (c2, 6000, .inl f))] H := hP
  have hD : va_D A [(h0, .inr (13, fs)), (q2, .inl (c2, 6000, .inl f))] := hD
  refine lv_iinc (v := (-8)) (lv' := [(2, .int (-8)), (0, .ref h0), (1, .int a1)]) hx hb dX13_put_33 hl (k := 0) rfl (by decide) (by decide) rfl (fun ls hl => ?_)
  refine lv_goto (tgt := 3) hx hb dX13_put_36 (by decide) ?_
  refine lv_iload_n hx hb dX13_put_3 rfl (lv_at hl 0 rfl) ?_
  refine lv_if_lt (tgt := 39) hx hb dX13_put_4 (by decide) (fun _ => ?_) (fun h => absurd (by decide) h)
  exact W.vret hx hb hr (fun t ht hW => ⟨⟨(fs, f), rfl, hJ, by rw [ht]; exact hP, va_K.moved hW.alike hK, hD⟩, hS.F ht⟩) hS.2.2 dX13_put_39
set_option maxHeartbeats 4000000 in
set_option maxRecDepth 100000 in
/-- feed on an empty tape: twenty bytes -/
theorem c_M_feed (l : Launch) (dC : Nat → ClassId) (dI : Nat → Nat → Nat) (h0 sz : Nat) (fs : List Value) (q2 : Nat) (c2 : ClassId) (f : Nat → Int32) (a1 : Int32) (a2 : Int32) (a3 : Int32) (a4 : Int32) (a5 : Int32) : Met l yX13_feed (.code yX13_feed cX13_feed 6 (some .int) :: wP) ({ frames := 1, cells := 0, slots := 0, locals := 25 }) (va_Pc [.ref h0, .int a1, .int a2, .int a3, .int a4, .int a5] (fun U => U.heap.size = sz ∧ kJ 180 [(2, .ref q2), (3, .int 0)] fs ∧ va_P (dC, dI) vwCl [(h0, .inr (13, fs)), (q2, .inl (c2, 6000, .inl f))] U.heap ∧ va_K (dC, dI) vwCl [(c2, .int)] U ∧ va_D (fun _ => True) [(h0, .inr (13, fs)), (q2, .inl (c2, 6000, .inl f))])) (va_Qi (fun r (_ : Unit) => r = 20) (fun (_ : Unit) (_ : State) => True) (va_A [(h0, .inr (13, fs)), (q2, .inl (c2, 6000, .inl f))] sz)) 0 0 (va_A [(h0, .inr (13, fs)), (q2, .inl (c2, 6000, .inl f))] sz) := by
  refine Met.ofW (cc := cX13_feed) (maxL := 6) (ret := (some .int)) (by decide) rfl ?_
  intro p e s m args below meth c s₁ B hml hv
  obtain ⟨rfl, hsz, hJ, hP, hK, hD0⟩ := hv
  have hx := B.exec
  have hb := B.bytes
  have hr := B.returns
  have hts := atoms_spec (ws := .code yX13_feed cX13_feed 6 (some .int) :: wP) B.pre
  have hown : s.vm.findClass RX13 = some m.cls := findClass_of_methodNamed B.named
  subst hsz
  have hD := hD0.self (sz := s.heap.size)
  generalize hAe : va_A [(h0, .inr (13, fs)), (q2, .inl (c2, 6000, .inl f))] s.heap.size = A at hD ⊢
  have hA : ∀ q : Nat, s.heap.size ≤ q → A q := fun q h => by rw [← hAe]; exact Or.inr h
  have hS : va_S A s.heap s.heap [] := va_S.rf
  have hl := lv_entry ([.ref h0, .int a1, .int a2, .int a3, .int a4, .int a5]) (n := 6) (Nat.le_of_ble_eq_true rfl)
  rw [lg_entry_eq]
  generalize (lg_sl ([.ref h0, .int a1, .int a2, .int a3, .int a4, .int a5]) ++ List.replicate (6 - (lg_sl ([.ref h0, .int a1, .int a2, .int a3, .int a4, .int a5])).length) Slot.unset).toArray = ls at hl ⊢
  obtain ⟨H, hHe⟩ : ∃ H, H = s.heap := ⟨_, rfl⟩
  rw [← hHe] at hP ⊢
  have hS : va_S A s.heap H [] := by rw [hHe]; exact hS
  have hl : lv_has ls 6 [(0, .ref h0), (1, .int a1), (2, .int a2), (3, .int a3), (4, .int a4), (5, .int a5)] := hl
  refine lv_aload_n hx hb dX13_feed_0 rfl (lv_at hl 0 rfl) ?_
  refine lv_iconst (v := 0) hx hb dX13_feed_1 (by decide) ?_
  refine kq_put [(1, .int 0), (2, .ref q2), (3, .int 0)] hts iX13 tyX13 tyX13_ok nmX13 hx hb hown hK hP hD hS 0 rfl rfl hJ 1 (by decide) (by decide) (hts _ (bP 135 rfl)) rfl (ty := .int) (by decide +kernel) (v := .int 0) rfl rfl dX13_feed_2 (fun f h => kJ_put h _ _ (by decide)) (fun H locs fs hJ hP hD hS => ?_)
  have hP : va_P (dC, dI) vwCl [(h0, .inr (13, fs)), (q2, .inl (c2, 6000, .inl f))] H := hP
  have hD : va_D A [(h0, .inr (13, fs)), (q2, .inl (c2, 6000, .inl f))] := hD
  refine lv_aload_n hx hb dX13_feed_5 rfl (lv_at hl 0 rfl) ?_
  refine va_get (D := (dC, dI)) (ci := 13) (v := .int 0) (C := RX13) (T := TX13) (N := 180) hx hb hts iX13 hown hK hP 0 rfl rfl 3 (by decide) (hts _ (bP 139 rfl)) (fun _ h9 => h9) (kJ_at hJ 2 rfl) dX13_feed_6 ?_
  refine lv_bipush (v := 20) hx hb dX13_feed_9 (by decide) ?_
  refine lv_iadd hx hb dX13_feed_11 ?_
  refine k_i (v := 20) (by decide) ?_
  refine lv_sipush (v := 6000) hx hb dX13_feed_12 (by decide) ?_
  refine lv_icmp_le (tgt := 20) hx hb dX13_feed_15 (by decide) (fun _ => ?_) (fun h => absurd h (by decide))
  refine lv_aload_n hx hb dX13_feed_20 rfl (lv_at hl 0 rfl) ?_
  refine lv_iload_n hx hb dX13_feed_21 rfl (lv_at hl 1 rfl) ?_
  have hPc := hP.sub (ws' := [(h0, .inr (13, fs)), (q2, .inl (c2, 6000, .inl f))]) [0, 1] rfl
  have hDc := hD.sub (ws' := [(h0, .inr (13, fs)), (q2, .inl (c2, 6000, .inl f))]) [0, 1] (by decide) rfl
  have hKc := hK.sub (tys' := [(c2, .int)]) [0] rfl
  have hFc := va_free (wc := [(h0, .inr (13, fs)), (q2, .inl (c2, 6000, .inl f))]) hD hS hA [0, 1] rfl
  refine va_callv (va_runV (As := [.int a1]) (rest := []) ⟨hx, hb, hml, hown, hts⟩ (c_M_put l dC dI h0 H.size fs q2 c2 f 0 a1) (cwV 1 hts (gV (y := yX13_put) _ 157 158 159 149 155 rfl rfl rfl rfl rfl) rfl rfl rfl (by decide +kernel) ⟨Nat.le_of_ble_eq_true rfl, Nat.le_of_ble_eq_true rfl⟩) ⟨fun a U g mk q => by obtain ⟨q0, q1, qJ, qn, qP, qK, qD⟩ := q; exact ⟨q0, q1, qJ, qn, qP, va_K.moved (u := U) (U := U.calling g mk a) (Vm.Alike.refl U.vm) qK, qD⟩, va_recv hKc hPc (ci := 13) (q0 := 0) rfl rfl, fun U hU hW => ⟨rfl, by rw [hU], kJ_sub hJ (by simp [nI_0]), by decide, by rw [hU]; exact hPc, va_K.moved hW.alike hKc, hDc.weaken (fun _ _ _ _ => trivial)⟩⟩ rfl rfl hl.1 rfl (lv_room (Nat.le_of_ble_eq_true rfl)) dX13_feed_22 ⟨Nat.le_of_ble_eq_true rfl, Nat.le_of_ble_eq_true rfl⟩) hS (fun q _ h => hFc q h) hFc (fun u t H1 locs ht hvm hw hB hz1 hk1 hS => ?_)
  obtain ⟨fs, f⟩ := u
  have hJ : kJ 180 [(3, .int (nI 4)), (2, .ref q2)] fs := hw
  clear hw
  obtain ⟨hP1, hK1, hD1⟩ := hB
  rw [ht] at hP1
  have hK1 := va_K.moved hvm.symm hK1
  obtain ⟨hP, hD⟩ := va_join (wr := []) (w1 := [(h0, .inr (13, fs)), (q2, .inl (c2, 6000, .inl f))]) hP hD [0, 1] [] rfl rfl (by decide) (by decide) hk1 hFc hP1 hD1
  have hK := (hK.sub (tys' := []) [] rfl).app hK1
  clear hPc hDc hKc hFc hP1 hK1 hD1 hk1 hz1
  generalize H1 = H at hP hS ⊢
  have hP : va_P (dC, dI) vwCl [(h0, .inr (13, fs)), (q2, .inl (c2, 6000, .inl f))] H := hP
  have hD : va_D A [(h0, .inr (13, fs)), (q2, .inl (c2, 6000, .inl f))] := hD
  have hK : va_K (dC, dI) vwCl [(c2, .int)] s := hK
  refine lv_aload_n hx hb dX13_feed_25 rfl (lv_at hl 0 rfl) ?_
  refine lv_iload_n hx hb dX13_feed_26 rfl (lv_at hl 2 rfl) ?_
  have hPc := hP.sub (ws' := [(h0, .inr (13, fs)), (q2, .inl (c2, 6000, .inl f))]) [0, 1] rfl
  have hDc := hD.sub (ws' := [(h0, .inr (13, fs)), (q2, .inl (c2, 6000, .inl f))]) [0, 1] (by decide) rfl
  have hKc := hK.sub (tys' := [(c2, .int)]) [0] rfl
  have hFc := va_free (wc := [(h0, .inr (13, fs)), (q2, .inl (c2, 6000, .inl f))]) hD hS hA [0, 1] rfl
  refine va_callv (va_runV (As := [.int a2]) (rest := []) ⟨hx, hb, hml, hown, hts⟩ (c_M_put l dC dI h0 H.size fs q2 c2 f 4 a2) (cwV 1 hts (gV (y := yX13_put) _ 157 158 159 149 155 rfl rfl rfl rfl rfl) rfl rfl rfl (by decide +kernel) ⟨Nat.le_of_ble_eq_true rfl, Nat.le_of_ble_eq_true rfl⟩) ⟨fun a U g mk q => by obtain ⟨q0, q1, qJ, qn, qP, qK, qD⟩ := q; exact ⟨q0, q1, qJ, qn, qP, va_K.moved (u := U) (U := U.calling g mk a) (Vm.Alike.refl U.vm) qK, qD⟩, va_recv hKc hPc (ci := 13) (q0 := 0) rfl rfl, fun U hU hW => ⟨rfl, by rw [hU], kJ_sub hJ (by simp [nI_0]), by decide, by rw [hU]; exact hPc, va_K.moved hW.alike hKc, hDc.weaken (fun _ _ _ _ => trivial)⟩⟩ rfl rfl hl.1 rfl (lv_room (Nat.le_of_ble_eq_true rfl)) dX13_feed_27 ⟨Nat.le_of_ble_eq_true rfl, Nat.le_of_ble_eq_true rfl⟩) hS (fun q _ h => hFc q h) hFc (fun u t H1 locs ht hvm hw hB hz1 hk1 hS => ?_)
  obtain ⟨fs, f⟩ := u
  have hJ : kJ 180 [(3, .int (nI 8)), (2, .ref q2)] fs := hw
  clear hw
  obtain ⟨hP1, hK1, hD1⟩ := hB
  rw [ht] at hP1
  have hK1 := va_K.moved hvm.symm hK1
  obtain ⟨hP, hD⟩ := va_join (wr := []) (w1 := [(h0, .inr (13, fs)), (q2, .inl (c2, 6000, .inl f))]) hP hD [0, 1] [] rfl rfl (by decide) (by decide) hk1 hFc hP1 hD1
  have hK := (hK.sub (tys' := []) [] rfl).app hK1
  clear hPc hDc hKc hFc hP1 hK1 hD1 hk1 hz1
  generalize H1 = H at hP hS ⊢
  have hP : va_P (dC, dI) vwCl [(h0, .inr (13, fs)), (q2, .inl (c2, 6000, .inl f))] H := hP
  have hD : va_D A [(h0, .inr (13, fs)), (q2, .inl (c2, 6000, .inl f))] := hD
  have hK : va_K (dC, dI) vwCl [(c2, .int)] s := hK
  refine lv_aload_n hx hb dX13_feed_30 rfl (lv_at hl 0 rfl) ?_
  refine lv_iload_n hx hb dX13_feed_31 rfl (lv_at hl 3 rfl) ?_
  have hPc := hP.sub (ws' := [(h0, .inr (13, fs)), (q2, .inl (c2, 6000, .inl f))]) [0, 1] rfl
  have hDc := hD.sub (ws' := [(h0, .inr (13, fs)), (q2, .inl (c2, 6000, .inl f))]) [0, 1] (by decide) rfl
  have hKc := hK.sub (tys' := [(c2, .int)]) [0] rfl
  have hFc := va_free (wc := [(h0, .inr (13, fs)), (q2, .inl (c2, 6000, .inl f))]) hD hS hA [0, 1] rfl
  refine va_callv (va_runV (As := [.int a3]) (rest := []) ⟨hx, hb, hml, hown, hts⟩ (c_M_put l dC dI h0 H.size fs q2 c2 f 8 a3) (cwV 1 hts (gV (y := yX13_put) _ 157 158 159 149 155 rfl rfl rfl rfl rfl) rfl rfl rfl (by decide +kernel) ⟨Nat.le_of_ble_eq_true rfl, Nat.le_of_ble_eq_true rfl⟩) ⟨fun a U g mk q => by obtain ⟨q0, q1, qJ, qn, qP, qK, qD⟩ := q; exact ⟨q0, q1, qJ, qn, qP, va_K.moved (u := U) (U := U.calling g mk a) (Vm.Alike.refl U.vm) qK, qD⟩, va_recv hKc hPc (ci := 13) (q0 := 0) rfl rfl, fun U hU hW => ⟨rfl, by rw [hU], kJ_sub hJ (by simp [nI_0]), by decide, by rw [hU]; exact hPc, va_K.moved hW.alike hKc, hDc.weaken (fun _ _ _ _ => trivial)⟩⟩ rfl rfl hl.1 rfl (lv_room (Nat.le_of_ble_eq_true rfl)) dX13_feed_32 ⟨Nat.le_of_ble_eq_true rfl, Nat.le_of_ble_eq_true rfl⟩) hS (fun q _ h => hFc q h) hFc (fun u t H1 locs ht hvm hw hB hz1 hk1 hS => ?_)
  obtain ⟨fs, f⟩ := u
  have hJ : kJ 180 [(3, .int (nI 12)), (2, .ref q2)] fs := hw
  clear hw
  obtain ⟨hP1, hK1, hD1⟩ := hB
  rw [ht] at hP1
  have hK1 := va_K.moved hvm.symm hK1
  obtain ⟨hP, hD⟩ := va_join (wr := []) (w1 := [(h0, .inr (13, fs)), (q2, .inl (c2, 6000, .inl f))]) hP hD [0, 1] [] rfl rfl (by decide) (by decide) hk1 hFc hP1 hD1
  have hK := (hK.sub (tys' := []) [] rfl).app hK1
  clear hPc hDc hKc hFc hP1 hK1 hD1 hk1 hz1
  generalize H1 = H at hP hS ⊢
  have hP : va_P (dC, dI) vwCl [(h0, .inr (13, fs)), (q2, .inl (c2, 6000, .inl f))] H := hP
  have hD : va_D A [(h0, .inr (13, fs)), (q2, .inl (c2, 6000, .inl f))] := hD
  have hK : va_K (dC, dI) vwCl [(c2, .int)] s := hK
  refine lv_aload_n hx hb dX13_feed_35 rfl (lv_at hl 0 rfl) ?_
  refine lv_iload hx hb dX13_feed_36 (lv_at hl 4 rfl) ?_
  have hPc := hP.sub (ws' := [(h0, .inr (13, fs)), (q2, .inl (c2, 6000, .inl f))]) [0, 1] rfl
  have hDc := hD.sub (ws' := [(h0, .inr (13, fs)), (q2, .inl (c2, 6000, .inl f))]) [0, 1] (by decide) rfl
  have hKc := hK.sub (tys' := [(c2, .int)]) [0] rfl
  have hFc := va_free (wc := [(h0, .inr (13, fs)), (q2, .inl (c2, 6000, .inl f))]) hD hS hA [0, 1] rfl
  refine va_callv (va_runV (As := [.int a4]) (rest := []) ⟨hx, hb, hml, hown, hts⟩ (c_M_put l dC dI h0 H.size fs q2 c2 f 12 a4) (cwV 1 hts (gV (y := yX13_put) _ 157 158 159 149 155 rfl rfl rfl rfl rfl) rfl rfl rfl (by decide +kernel) ⟨Nat.le_of_ble_eq_true rfl, Nat.le_of_ble_eq_true rfl⟩) ⟨fun a U g mk q => by obtain ⟨q0, q1, qJ, qn, qP, qK, qD⟩ := q; exact ⟨q0, q1, qJ, qn, qP, va_K.moved (u := U) (U := U.calling g mk a) (Vm.Alike.refl U.vm) qK, qD⟩, va_recv hKc hPc (ci := 13) (q0 := 0) rfl rfl, fun U hU hW => ⟨rfl, by rw [hU], kJ_sub hJ (by simp [nI_0]), by decide, by rw [hU]; exact hPc, va_K.moved hW.alike hKc, hDc.weaken (fun _ _ _ _ => trivial)⟩⟩ rfl rfl hl.1 rfl (lv_room (Nat.le_of_ble_eq_true rfl)) dX13_feed_38 ⟨Nat.le_of_ble_eq_true rfl, Nat.le_of_ble_eq_true rfl⟩) hS (fun q _ h => hFc q h) hFc (fun u t H1 locs ht hvm hw hB hz1 hk1 hS => ?_)
  obtain ⟨fs, f⟩ := u
  have hJ : kJ 180 [(3, .int (nI 16)), (2, .ref q2)] fs := hw
  clear hw
  obtain ⟨hP1, hK1, hD1⟩ := hB
  rw [ht] at hP1
  have hK1 := va_K.moved hvm.symm hK1
  obtain ⟨hP, hD⟩ := va_join (wr := []) (w1 := [(h0, .inr (13, fs)), (q2, .inl (c2, 6000, .inl f))]) hP hD [0, 1] [] rfl rfl (by decide) (by decide) hk1 hFc hP1 hD1
  have hK := (hK.sub (tys' := []) [] rfl).app hK1
  clear hPc hDc hKc hFc hP1 hK1 hD1 hk1 hz1
  generalize H1 = H at hP hS ⊢
  have hP : va_P (dC, dI) vwCl [(h0, .inr (13, fs)), (q2, .inl (c2, 6000, .inl f))] H := hP
  have hD : va_D A [(h0, .inr (13, fs)), (q2, .inl (c2, 6000, .inl f))] := hD
  have hK : va_K (dC, dI) vwCl [(c2, .int)] s := hK
  refine lv_aload_n hx hb dX13_feed_41 rfl (lv_at hl 0 rfl) ?_
  refine lv_iload hx hb dX13_feed_42 (lv_at hl 5 rfl) ?_
  have hPc := hP.sub (ws' := [(h0, .inr (13, fs)), (q2, .inl (c2, 6000, .inl f))]) [0, 1] rfl
  have hDc := hD.sub (ws' := [(h0, .inr (13, fs)), (q2, .inl (c2, 6000, .inl f))]) [0, 1] (by decide) rfl
  have hKc := hK.sub (tys' := [(c2, .int)]) [0] rfl
  have hFc := va_free (wc := [(h0, .inr (13, fs)), (q2, .inl (c2, 6000, .inl f))]) hD hS hA [0, 1] rfl
  refine va_callv (va_runV (As := [.int a5]) (rest := []) ⟨hx, hb, hml, hown, hts⟩ (c_M_put l dC dI h0 H.size fs q2 c2 f 16 a5) (cwV 1 hts (gV (y := yX13_put) _ 157 158 159 149 155 rfl rfl rfl rfl rfl) rfl rfl rfl (by decide +kernel) ⟨Nat.le_of_ble_eq_true rfl, Nat.le_of_ble_eq_true rfl⟩) ⟨fun a U g mk q => by obtain ⟨q0, q1, qJ, qn, qP, qK, qD⟩ := q; exact ⟨q0, q1, qJ, qn, qP, va_K.moved (u := U) (U := U.calling g mk a) (Vm.Alike.refl U.vm) qK, qD⟩, va_recv hKc hPc (ci := 13) (q0 := 0) rfl rfl, fun U hU hW => ⟨rfl, by rw [hU], kJ_sub hJ (by simp [nI_0]), by decide, by rw [hU]; exact hPc, va_K.moved hW.alike hKc, hDc.weaken (fun _ _ _ _ => trivial)⟩⟩ rfl rfl hl.1 rfl (lv_room (Nat.le_of_ble_eq_true rfl)) dX13_feed_44 ⟨Nat.le_of_ble_eq_true rfl, Nat.le_of_ble_eq_true rfl⟩) hS (fun q _ h => hFc q h) hFc (fun u t H1 locs ht hvm hw hB hz1 hk1 hS => ?_)
  obtain ⟨fs, f⟩ := u
  have hJ : kJ 180 [(3, .int (nI 20)), (2, .ref q2)] fs := hw
  clear hw
  obtain ⟨hP1, hK1, hD1⟩ := hB
  rw [ht] at hP1
  have hK1 := va_K.moved hvm.symm hK1
  obtain ⟨hP, hD⟩ := va_join (wr := []) (w1 := [(h0, .inr (13, fs)), (q2, .inl (c2, 6000, .inl f))]) hP hD [0, 1] [] rfl rfl (by decide) (by decide) hk1 hFc hP1 hD1
  have hK := (hK.sub (tys' := []) [] rfl).app hK1
  clear hPc hDc hKc hFc hP1 hK1 hD1 hk1 hz1
  generalize H1 = H at hP hS ⊢
  have hP : va_P (dC, dI) vwCl [(h0, .inr (13, fs)), (q2, .inl (c2, 6000, .inl f))] H := hP
  have hD : va_D A [(h0, .inr (13, fs)), (q2, .inl (c2, 6000, .inl f))] := hD
  have hK : va_K (dC, dI) vwCl [(c2, .int)] s := hK
  refine lv_aload_n hx hb dX13_feed_47 rfl (lv_at hl 0 rfl) ?_
  refine va_get (D := (dC, dI)) (ci := 13) (v := .int (nI 20)) (C := RX13) (T := TX13) (N := 180) hx hb hts iX13 hown hK hP 0 rfl rfl 3 (by decide) (hts _ (bP 139 rfl)) (fun _ h9 => h9) (kJ_at hJ 0 rfl) dX13_feed_48 ?_
  exact W.iret (v := nI 20) hx hb hr (fun t ht hW => ⟨⟨nI 20, (), rfl, rfl, trivial⟩, hS.F ht⟩) hS.2.2 dX13_feed_51
end
section
/-! read of the reference on an empty tape -/
theorem dX13_token_0 : decode cX13_token 0 = .ok (.aload_n 0, 1) := by decide +kernel
theorem dX13_token_1 : decode cX13_token 1 = .ok (.getfield 157, 3) := by decide +kernel
theorem dX13_token_4 : decode cX13_token 4 = .ok (.aload_n 0, 1) := by decide +kernel
theorem dX13_token_5 : decode cX13_token 5 = .ok (.getfield 472, 3) := by decide +kernel
theorem dX13_token_8 : decode cX13_token 8 = .ok (.iload_n 1, 1) := by decide +kernel
theorem dX13_token_9 : decode cX13_token 9 = .ok (.iastore, 1) := by decide +kernel
theorem dX13_token_10 : decode cX13_token 10 = .ok (.aload_n 0, 1) := by decide +kernel
theorem dX13_token_11 : decode cX13_token 11 = .ok (.getfield 160, 3) := by decide +kernel
theorem dX13_token_14 : decode cX13_token 14 = .ok (.aload_n 0, 1) := by decide +kernel
theorem dX13_token_15 : decode cX13_token 15 = .ok (.getfield 472, 3) := by decide +kernel
theorem dX13_token_18 : decode cX13_token 18 = .ok (.iload_n 2, 1) := by decide +kernel
theorem dX13_token_19 : decode cX13_token 19 = .ok (.iastore, 1) := by decide +kernel
theorem dX13_token_20 : decode cX13_token 20 = .ok (.aload_n 0, 1) := by decide +kernel
theorem dX13_token_21 : decode cX13_token 21 = .ok (.getfield 163, 3) := by decide +kernel
theorem dX13_token_24 : decode cX13_token 24 = .ok (.aload_n 0, 1) := by decide +kernel
theorem dX13_token_25 : decode cX13_token 25 = .ok (.getfield 472, 3) := by decide +kernel
theorem dX13_token_28 : decode cX13_token 28 = .ok (.iload_n 3, 1) := by decide +kernel
theorem dX13_token_29 : decode cX13_token 29 = .ok (.iastore, 1) := by decide +kernel
theorem dX13_token_30 : decode cX13_token 30 = .ok (.aload_n 0, 1) := by decide +kernel
theorem dX13_token_31 : decode cX13_token 31 = .ok (.getfield 166, 3) := by decide +kernel
theorem dX13_token_34 : decode cX13_token 34 = .ok (.aload_n 0, 1) := by decide +kernel
theorem dX13_token_35 : decode cX13_token 35 = .ok (.getfield 472, 3) := by decide +kernel
theorem dX13_token_38 : decode cX13_token 38 = .ok (.iload 4, 2) := by decide +kernel
theorem dX13_token_40 : decode cX13_token 40 = .ok (.iastore, 1) := by decide +kernel
theorem dX13_token_41 : decode cX13_token 41 = .ok (.aload_n 0, 1) := by decide +kernel
theorem dX13_token_42 : decode cX13_token 42 = .ok (.dup, 1) := by decide +kernel
theorem dX13_token_43 : decode cX13_token 43 = .ok (.getfield 472, 3) := by decide +kernel
theorem dX13_token_46 : decode cX13_token 46 = .ok (.iconst 1, 1) := by decide +kernel
theorem dX13_token_47 : decode cX13_token 47 = .ok (.iadd, 1) := by decide +kernel
theorem dX13_token_48 : decode cX13_token 48 = .ok (.putfield 472, 3) := by decide +kernel
theorem dX13_token_51 : decode cX13_token 51 = .ok (.return_, 1) := by decide +kernel
theorem dX13_scanAll_0 : decode cX13_scanAll 0 = .ok (.aload_n 0, 1) := by decide +kernel
theorem dX13_scanAll_1 : decode cX13_scanAll 1 = .ok (.iconst 0, 1) := by decide +kernel
theorem dX13_scanAll_2 : decode cX13_scanAll 2 = .ok (.putfield 472, 3) := by decide +kernel
theorem dX13_scanAll_5 : decode cX13_scanAll 5 = .ok (.aload_n 0, 1) := by decide +kernel
theorem dX13_scanAll_6 : decode cX13_scanAll 6 = .ok (.iconst 0, 1) := by decide +kernel
theorem dX13_scanAll_7 : decode cX13_scanAll 7 = .ok (.putfield 475, 3) := by decide +kernel
theorem dX13_scanAll_10 : decode cX13_scanAll 10 = .ok (.aload_n 0, 1) := by decide +kernel
theorem dX13_scanAll_11 : decode cX13_scanAll 11 = .ok (.iconst 0, 1) := by decide +kernel
theorem dX13_scanAll_12 : decode cX13_scanAll 12 = .ok (.putfield 478, 3) := by decide +kernel
theorem dX13_scanAll_15 : decode cX13_scanAll 15 = .ok (.aload_n 0, 1) := by decide +kernel
theorem dX13_scanAll_16 : decode cX13_scanAll 16 = .ok (.iconst 0, 1) := by decide +kernel
theorem dX13_scanAll_17 : decode cX13_scanAll 17 = .ok (.putfield 525, 3) := by decide +kernel
theorem dX13_scanAll_20 : decode cX13_scanAll 20 = .ok (.aload_n 0, 1) := by decide +kernel
theorem dX13_scanAll_21 : decode cX13_scanAll 21 = .ok (.iconst 0, 1) := by decide +kernel
theorem dX13_scanAll_22 : decode cX13_scanAll 22 = .ok (.putfield 528, 3) := by decide +kernel
theorem dX13_scanAll_25 : decode cX13_scanAll 25 = .ok (.aload_n 0, 1) := by decide +kernel
theorem dX13_scanAll_26 : decode cX13_scanAll 26 = .ok (.iconst 0, 1) := by decide +kernel
theorem dX13_scanAll_27 : decode cX13_scanAll 27 = .ok (.putfield 531, 3) := by decide +kernel
theorem dX13_scanAll_30 : decode cX13_scanAll 30 = .ok (.aload_n 0, 1) := by decide +kernel
theorem dX13_scanAll_31 : decode cX13_scanAll 31 = .ok (.iconst 0, 1) := by decide +kernel
theorem dX13_scanAll_32 : decode cX13_scanAll 32 = .ok (.putfield 534, 3) := by decide +kernel
theorem dX13_scanAll_35 : decode cX13_scanAll 35 = .ok (.aload_n 0, 1) := by decide +kernel
theorem dX13_scanAll_36 : decode cX13_scanAll 36 = .ok (.iconst 0, 1) := by decide +kernel
theorem dX13_scanAll_37 : decode cX13_scanAll 37 = .ok (.putfield 462, 3) := by decide +kernel
theorem dX13_scanAll_40 : decode cX13_scanAll 40 = .ok (.iconst 1, 1) := by decide +kernel
theorem dX13_scanAll_41 : decode cX13_scanAll 41 = .ok (.istore_n 1, 1) := by decide +kernel
theorem dX13_scanAll_42 : decode cX13_scanAll 42 = .ok (.iconst 1, 1) := by decide +kernel
theorem dX13_scanAll_43 : decode cX13_scanAll 43 = .ok (.istore_n 2, 1) := by decide +kernel
theorem dX13_scanAll_44 : decode cX13_scanAll 44 = .ok (.aload_n 0, 1) := by decide +kernel
theorem dX13_scanAll_45 : decode cX13_scanAll 45 = .ok (.getfield 462, 3) := by decide +kernel
theorem dX13_scanAll_48 : decode cX13_scanAll 48 = .ok (.aload_n 0, 1) := by decide +kernel
theorem dX13_scanAll_49 : decode cX13_scanAll 49 = .ok (.getfield 455, 3) := by decide +kernel
theorem dX13_scanAll_52 : decode cX13_scanAll 52 = .ok (.if_icmp .ge 295, 3) := by decide +kernel
theorem dX13_scanAll_347 : decode cX13_scanAll 347 = .ok (.aload_n 0, 1) := by decide +kernel
theorem dX13_scanAll_348 : decode cX13_scanAll 348 = .ok (.bipush 75, 2) := by decide +kernel
theorem dX13_scanAll_350 : decode cX13_scanAll 350 = .ok (.iconst 0, 1) := by decide +kernel
theorem dX13_scanAll_351 : decode cX13_scanAll 351 = .ok (.iload_n 1, 1) := by decide +kernel
theorem dX13_scanAll_352 : decode cX13_scanAll 352 = .ok (.iconst (-1), 1) := by decide +kernel
theorem dX13_scanAll_353 : decode cX13_scanAll 353 = .ok (.invokevirtual 540, 3) := by decide +kernel
theorem dX13_scanAll_356 : decode cX13_scanAll 356 = .ok (.return_, 1) := by decide +kernel
theorem dX13_stop_0 : decode cX13_stop 0 = .ok (.aload_n 0, 1) := by decide +kernel
theorem dX13_stop_1 : decode cX13_stop 1 = .ok (.getfield 157, 3) := by decide +kernel
theorem dX13_stop_4 : decode cX13_stop 4 = .ok (.aload_n 0, 1) := by decide +kernel
theorem dX13_stop_5 : decode cX13_stop 5 = .ok (.getfield 547, 3) := by decide +kernel
theorem dX13_stop_8 : decode cX13_stop 8 = .ok (.iaload, 1) := by decide +kernel
theorem dX13_stop_9 : decode cX13_stop 9 = .ok (.bipush 76, 2) := by decide +kernel
theorem dX13_stop_11 : decode cX13_stop 11 = .ok (.if_icmp .ne 7, 3) := by decide +kernel
theorem dX13_stop_18 : decode cX13_stop 18 = .ok (.iconst 0, 1) := by decide +kernel
theorem dX13_stop_19 : decode cX13_stop 19 = .ok (.istore_n 2, 1) := by decide +kernel
theorem dX13_stop_20 : decode cX13_stop 20 = .ok (.aload_n 0, 1) := by decide +kernel
theorem dX13_stop_21 : decode cX13_stop 21 = .ok (.iload_n 2, 1) := by decide +kernel
theorem dX13_stop_22 : decode cX13_stop 22 = .ok (.ifCond .eq 7, 3) := by decide +kernel
theorem dX13_stop_29 : decode cX13_stop 29 = .ok (.iload_n 1, 1) := by decide +kernel
theorem dX13_stop_30 : decode cX13_stop 30 = .ok (.putfield 550, 3) := by decide +kernel
theorem dX13_stop_33 : decode cX13_stop 33 = .ok (.aload_n 0, 1) := by decide +kernel
theorem dX13_stop_34 : decode cX13_stop 34 = .ok (.aload_n 0, 1) := by decide +kernel
theorem dX13_stop_35 : decode cX13_stop 35 = .ok (.getfield 163, 3) := by decide +kernel
theorem dX13_stop_38 : decode cX13_stop 38 = .ok (.aload_n 0, 1) := by decide +kernel
theorem dX13_stop_39 : decode cX13_stop 39 = .ok (.getfield 547, 3) := by decide +kernel
theorem dX13_stop_42 : decode cX13_stop 42 = .ok (.iaload, 1) := by decide +kernel
theorem dX13_stop_43 : decode cX13_stop 43 = .ok (.putfield 553, 3) := by decide +kernel
theorem dX13_stop_46 : decode cX13_stop 46 = .ok (.aload_n 0, 1) := by decide +kernel
theorem dX13_stop_47 : decode cX13_stop 47 = .ok (.getfield 10, 3) := by decide +kernel
theorem dX13_stop_50 : decode cX13_stop 50 = .ok (.areturn, 1) := by decide +kernel
theorem dX13_look_0 : decode cX13_look 0 = .ok (.aload_n 0, 1) := by decide +kernel
theorem dX13_look_1 : decode cX13_look 1 = .ok (.getfield 157, 3) := by decide +kernel
theorem dX13_look_4 : decode cX13_look 4 = .ok (.aload_n 0, 1) := by decide +kernel
theorem dX13_look_5 : decode cX13_look 5 = .ok (.getfield 547, 3) := by decide +kernel
theorem dX13_look_8 : decode cX13_look 8 = .ok (.iaload, 1) := by decide +kernel
theorem dX13_look_9 : decode cX13_look 9 = .ok (.ireturn, 1) := by decide +kernel
theorem dX13_isAt_0 : decode cX13_isAt 0 = .ok (.aload_n 0, 1) := by decide +kernel
theorem dX13_isAt_1 : decode cX13_isAt 1 = .ok (.invokevirtual 560, 3) := by decide +kernel
theorem dX13_isAt_4 : decode cX13_isAt 4 = .ok (.bipush 75, 2) := by decide +kernel
theorem dX13_isAt_6 : decode cX13_isAt 6 = .ok (.if_icmp .eq 22, 3) := by decide +kernel
theorem dX13_isAt_28 : decode cX13_isAt 28 = .ok (.iconst 0, 1) := by decide +kernel
theorem dX13_isAt_29 : decode cX13_isAt 29 = .ok (.ireturn, 1) := by decide +kernel
theorem dX13_lineAt_0 : decode cX13_lineAt 0 = .ok (.aload_n 0, 1) := by decide +kernel
theorem dX13_lineAt_1 : decode cX13_lineAt 1 = .ok (.iload_n 1, 1) := by decide +kernel
theorem dX13_lineAt_2 : decode cX13_lineAt 2 = .ok (.invokevirtual 578, 3) := by decide +kernel
theorem dX13_lineAt_5 : decode cX13_lineAt 5 = .ok (.ifCond .eq 14, 3) := by decide +kernel
theorem dX13_lineAt_19 : decode cX13_lineAt 19 = .ok (.aload_n 0, 1) := by decide +kernel
theorem dX13_lineAt_20 : decode cX13_lineAt 20 = .ok (.iconst 2, 1) := by decide +kernel
theorem dX13_lineAt_21 : decode cX13_lineAt 21 = .ok (.invokevirtual 556, 3) := by decide +kernel
theorem dX13_lineAt_24 : decode cX13_lineAt 24 = .ok (.athrow, 1) := by decide +kernel
theorem dX13_process_0 : decode cX13_process 0 = .ok (.aload_n 0, 1) := by decide +kernel
theorem dX13_process_1 : decode cX13_process 1 = .ok (.iload_n 1, 1) := by decide +kernel
theorem dX13_process_2 : decode cX13_process 2 = .ok (.iconst 0, 1) := by decide +kernel
theorem dX13_process_3 : decode cX13_process 3 = .ok (.invokevirtual 588, 3) := by decide +kernel
theorem dX13_parses_0 : decode cX13_parses 0 = .ok (.aload_n 0, 1) := by decide +kernel
theorem dX13_parses_1 : decode cX13_parses 1 = .ok (.iconst 0, 1) := by decide +kernel
theorem dX13_parses_2 : decode cX13_parses 2 = .ok (.putfield 544, 3) := by decide +kernel
theorem dX13_parses_5 : decode cX13_parses 5 = .ok (.aload_n 0, 1) := by decide +kernel
theorem dX13_parses_6 : decode cX13_parses 6 = .ok (.iconst 0, 1) := by decide +kernel
theorem dX13_parses_7 : decode cX13_parses 7 = .ok (.putfield 547, 3) := by decide +kernel
theorem dX13_parses_10 : decode cX13_parses 10 = .ok (.aload_n 0, 1) := by decide +kernel
theorem dX13_parses_11 : decode cX13_parses 11 = .ok (.iconst 0, 1) := by decide +kernel
theorem dX13_parses_12 : decode cX13_parses 12 = .ok (.putfield 669, 3) := by decide +kernel
theorem dX13_parses_15 : decode cX13_parses 15 = .ok (.aload_n 0, 1) := by decide +kernel
theorem dX13_parses_16 : decode cX13_parses 16 = .ok (.iconst 0, 1) := by decide +kernel
theorem dX13_parses_17 : decode cX13_parses 17 = .ok (.putfield 550, 3) := by decide +kernel
theorem dX13_parses_20 : decode cX13_parses 20 = .ok (.aload_n 0, 1) := by decide +kernel
theorem dX13_parses_21 : decode cX13_parses 21 = .ok (.aload_n 0, 1) := by decide +kernel
theorem dX13_parses_22 : decode cX13_parses 22 = .ok (.iconst 0, 1) := by decide +kernel
theorem dX13_parses_23 : decode cX13_parses 23 = .ok (.invokevirtual 604, 3) := by decide +kernel
theorem dX13_parses_46 : decode cX13_parses 46 = .ok (.astore_n 1, 1) := by decide +kernel
theorem dX13_parses_47 : decode cX13_parses 47 = .ok (.iconst 0, 1) := by decide +kernel
theorem dX13_parses_48 : decode cX13_parses 48 = .ok (.ireturn, 1) := by decide +kernel
theorem dX13_read_0 : decode cX13_read 0 = .ok (.aload_n 0, 1) := by decide +kernel
theorem dX13_read_1 : decode cX13_read 1 = .ok (.iconst 0, 1) := by decide +kernel
theorem dX13_read_2 : decode cX13_read 2 = .ok (.putfield 451, 3) := by decide +kernel
theorem dX13_read_5 : decode cX13_read 5 = .ok (.aload_n 0, 1) := by decide +kernel
theorem dX13_read_6 : decode cX13_read 6 = .ok (.invokevirtual 1116, 3) := by decide +kernel
theorem dX13_read_9 : decode cX13_read 9 = .ok (.aload_n 0, 1) := by decide +kernel
theorem dX13_read_10 : decode cX13_read 10 = .ok (.iconst 0, 1) := by decide +kernel
theorem dX13_read_11 : decode cX13_read 11 = .ok (.putfield 455, 3) := by decide +kernel
theorem dX13_read_14 : decode cX13_read 14 = .ok (.aload_n 0, 1) := by decide +kernel
theorem dX13_read_15 : decode cX13_read 15 = .ok (.iconst 0, 1) := by decide +kernel
theorem dX13_read_16 : decode cX13_read 16 = .ok (.putfield 1119, 3) := by decide +kernel
theorem dX13_read_19 : decode cX13_read 19 = .ok (.aload_n 0, 1) := by decide +kernel
theorem dX13_read_20 : decode cX13_read 20 = .ok (.iconst 0, 1) := by decide +kernel
theorem dX13_read_21 : decode cX13_read 21 = .ok (.putfield 1122, 3) := by decide +kernel
theorem dX13_read_24 : decode cX13_read 24 = .ok (.aload_n 0, 1) := by decide +kernel
theorem dX13_read_25 : decode cX13_read 25 = .ok (.invokevirtual 1125, 3) := by decide +kernel
theorem dX13_read_28 : decode cX13_read 28 = .ok (.ifCond .ne 16, 3) := by decide +kernel
theorem dX13_read_31 : decode cX13_read 31 = .ok (.aload_n 0, 1) := by decide +kernel
theorem dX13_read_32 : decode cX13_read 32 = .ok (.getfield 550, 3) := by decide +kernel
theorem dX13_read_35 : decode cX13_read 35 = .ok (.bipush 16, 2) := by decide +kernel
theorem dX13_read_37 : decode cX13_read 37 = .ok (.aload_n 0, 1) := by decide +kernel
theorem dX13_read_38 : decode cX13_read 38 = .ok (.getfield 553, 3) := by decide +kernel
theorem dX13_read_41 : decode cX13_read 41 = .ok (.imul, 1) := by decide +kernel
theorem dX13_read_42 : decode cX13_read 42 = .ok (.iadd, 1) := by decide +kernel
theorem dX13_read_43 : decode cX13_read 43 = .ok (.ireturn, 1) := by decide +kernel
set_option maxHeartbeats 4000000 in
set_option maxRecDepth 100000 in
/-- the first token -/
theorem c_M_token (l : Launch) (dC : Nat → ClassId) (dI : Nat → Nat → Nat) (h0 sz : Nat) (fs : List Value) (qh : Nat) (q7 : Nat) (q8 : Nat) (q9 : Nat) (q10 : Nat) (c7 : ClassId) (c8 : ClassId) (c9 : ClassId) (c10 : ClassId) (f7 : Nat → Int32) (f8 : Nat → Int32) (f9 : Nat → Int32) (f10 : Nat → Int32) (a1 : Int32) (a2 : Int32) (a3 : Int32) (a4 : Int32) : Met l yX13_token (.code yX13_token cX13_token 5 none :: wP) ({ frames := 0, cells := 0, slots := 0, locals := 0 }) (va_Pc [.ref h0, .int a1, .int a2, .int a3, .int a4] (fun U => U.heap.size = sz ∧ kJ 180 [(0, .ref qh), (7, .ref q7), (8, .ref q8), (9, .ref q9), (10, .ref q10), (6, .int 0)] fs ∧ va_P (dC, dI) vwCl [(h0, .inr (13, fs)), (q7, .inl (c7, 12002, .inl f7)), (q8, .inl (c8, 12002, .inl f8)), (q9, .inl (c9, 12002, .inl f9)), (q10, .inl (c10, 12002, .inl f10))] U.heap ∧ va_K (dC, dI) vwCl [(c7, .int), (c8, .int), (c9, .int), (c10, .int)] U ∧ va_D (fun _ => True) [(h0, .inr (13, fs)), (q7, .inl (c7, 12002, .inl f7)), (q8, .inl (c8, 12002, .inl f8)), (q9, .inl (c9, 12002, .inl f9)), (q10, .inl (c10, 12002, .inl f10))])) (va_Qv (fun u : (List Value × (Nat → Int32) × (Nat → Int32) × (Nat → Int32) × (Nat → Int32)) => match u with | (fs, f7, f8, f9, f10) => kJ 180 [(6, .int 1), (0, .ref qh), (7, .ref q7), (8, .ref q8), (9, .ref q9), (10, .ref q10)] fs ∧ f7 0 = a1 ∧ f9 0 = a3) (fun (u : (List Value × (Nat → Int32) × (Nat → Int32) × (Nat → Int32) × (Nat → Int32))) (t : State) => match u with | (gs, g7, g8, g9, g10) => va_P (dC, dI) vwCl [(h0, .inr (13, gs)), (q7, .inl (c7, 12002, .inl g7)), (q8, .inl (c8, 12002, .inl g8)), (q9, .inl (c9, 12002, .inl g9)), (q10, .inl (c10, 12002, .inl g10))] t.heap ∧ va_K (dC, dI) vwCl [(c7, .int), (c8, .int), (c9, .int), (c10, .int)] t ∧ va_D (va_A [(h0, .inr (13, fs)), (q7, .inl (c7, 12002, .inl f7)), (q8, .inl (c8, 12002, .inl f8)), (q9, .inl (c9, 12002, .inl f9)), (q10, .inl (c10, 12002, .inl f10))] sz) [(h0, .inr (13, gs)), (q7, .inl (c7, 12002, .inl g7)), (q8, .inl (c8, 12002, .inl g8)), (q9, .inl (c9, 12002, .inl g9)), (q10, .inl (c10, 12002, .inl g10))]) (va_A [(h0, .inr (13, fs)), (q7, .inl (c7, 12002, .inl f7)), (q8, .inl (c8, 12002, .inl f8)), (q9, .inl (c9, 12002, .inl f9)), (q10, .inl (c10, 12002, .inl f10))] sz)) 0 0 (va_A [(h0, .inr (13, fs)), (q7, .inl (c7, 12002, .inl f7)), (q8, .inl (c8, 12002, .inl f8)), (q9, .inl (c9, 12002, .inl f9)), (q10, .inl (c10, 12002, .inl f10))] sz) := by
  refine Met.ofW (cc := cX13_token) (maxL := 5) (ret := none) (by decide) rfl ?_
  intro p e s m args below meth c s₁ B hml hv
  obtain ⟨rfl, hsz, hJ, hP, hK, hD0⟩ := hv
  have hx := B.exec
  have hb := B.bytes
  have hr := B.returns
  have hts := atoms_spec (ws := .code yX13_token cX13_token 5 none :: wP) B.pre
  have hown : s.vm.findClass RX13 = some m.cls := findClass_of_methodNamed B.named
  subst hsz
  have hD := hD0.self (sz := s.heap.size)
  generalize hAe : va_A [(h0, .inr (13, fs)), (q7, .inl (c7, 12002, .inl f7)), (q8, .inl (c8, 12002, .inl f8)), (q9, .inl (c9, 12002, .inl f9)), (q10, .inl (c10, 12002, .inl f10))] s.heap.size = A at hD ⊢
  have hA : ∀ q : Nat, s.heap.size ≤ q → A q := fun q h => by rw [← hAe]; exact Or.inr h
  have hS : va_S A s.heap s.heap [] := va_S.rf
  have hl := lv_entry ([.ref h0, .int a1, .int a2, .int a3, .int a4]) (n := 5) (Nat.le_of_ble_eq_true rfl)
  rw [lg_entry_eq]
  generalize (lg_sl ([.ref h0, .int a1, .int a2, .int a3, .int a4]) ++ List.replicate (5 - (lg_sl ([.ref h0, .int a1, .int a2, .int a3, .int a4])).length) Slot.unset).toArray = ls at hl ⊢
  obtain ⟨H, hHe⟩ : ∃ H, H = s.heap := ⟨_, rfl⟩
  rw [← hHe] at hP ⊢
  have hS : va_S A s.heap H [] := by rw [hHe]; exact hS
  have hl : lv_has ls 5 [(0, .ref h0), (1, .int a1), (2, .int a2), (3, .int a3), (4, .int a4)] := hl
  refine lv_aload_n hx hb dX13_token_0 rfl (lv_at hl 0 rfl) ?_
  refine va_get (D := (dC, dI)) (ci := 13) (v := .ref q7) (C := RX13) (T := TX13) (N := 180) hx hb hts iX13 hown hK hP 0 rfl rfl 7 (by decide) (hts _ (bP 12 rfl)) (fun _ h9 => h9) (kJ_at hJ 1 rfl) dX13_token_1 ?_
  refine lv_aload_n hx hb dX13_token_4 rfl (lv_at hl 0 rfl) ?_
  refine va_get (D := (dC, dI)) (ci := 13) (v := .int 0) (C := RX13) (T := TX13) (N := 180) hx hb hts iX13 hown hK hP 0 rfl rfl 6 (by decide) (hts _ (bP 161 rfl)) (fun _ h9 => h9) (kJ_at hJ 5 rfl) dX13_token_5 ?_
  refine lv_iload_n hx hb dX13_token_8 rfl (lv_at hl 1 rfl) ?_
  refine kq_iast hx hb hK hP hD hS 1 0 rfl rfl (by unfold vp_in; decide) dX13_token_9 (fun H locs f7 ef7 hP hD hS => ?_)
  have hP : va_P (dC, dI) vwCl [(h0, .inr (13, fs)), (q7, .inl (c7, 12002, .inl f7)), (q8, .inl (c8, 12002, .inl f8)), (q9, .inl (c9, 12002, .inl f9)), (q10, .inl (c10, 12002, .inl f10))] H := hP
  have hD : va_D A [(h0, .inr (13, fs)), (q7, .inl (c7, 12002, .inl f7)), (q8, .inl (c8, 12002, .inl f8)), (q9, .inl (c9, 12002, .inl f9)), (q10, .inl (c10, 12002, .inl f10))] := hD
  refine lv_aload_n hx hb dX13_token_10 rfl (lv_at hl 0 rfl) ?_
  refine va_get (D := (dC, dI)) (ci := 13) (v := .ref q8) (C := RX13) (T := TX13) (N := 180) hx hb hts iX13 hown hK hP 0 rfl rfl 8 (by decide) (hts _ (bP 13 rfl)) (fun _ h9 => h9) (kJ_at hJ 2 rfl) dX13_token_11 ?_
  refine lv_aload_n hx hb dX13_token_14 rfl (lv_at hl 0 rfl) ?_
  refine va_get (D := (dC, dI)) (ci := 13) (v := .int 0) (C := RX13) (T := TX13) (N := 180) hx hb hts iX13 hown hK hP 0 rfl rfl 6 (by decide) (hts _ (bP 161 rfl)) (fun _ h9 => h9) (kJ_at hJ 5 rfl) dX13_token_15 ?_
  refine lv_iload_n hx hb dX13_token_18 rfl (lv_at hl 2 rfl) ?_
  refine kq_iast hx hb hK hP hD hS 2 1 rfl rfl (by unfold vp_in; decide) dX13_token_19 (fun H locs f8 ef8 hP hD hS => ?_)
  have hP : va_P (dC, dI) vwCl [(h0, .inr (13, fs)), (q7, .inl (c7, 12002, .inl f7)), (q8, .inl (c8, 12002, .inl f8)), (q9, .inl (c9, 12002, .inl f9)), (q10, .inl (c10, 12002, .inl f10))] H := hP
  have hD : va_D A [(h0, .inr (13, fs)), (q7, .inl (c7, 12002, .inl f7)), (q8, .inl (c8, 12002, .inl f8)), (q9, .inl (c9, 12002, .inl f9)), (q10, .inl (c10, 12002, .inl f10))] := hD
  refine lv_aload_n hx hb dX13_token_20 rfl (lv_at hl 0 rfl) ?_
  refine va_get (D := (dC, dI)) (ci := 13) (v := .ref q9) (C := RX13) (T := TX13) (N := 180) hx hb hts iX13 hown hK hP 0 rfl rfl 9 (by decide) (hts _ (bP 14 rfl)) (fun _ h9 => h9) (kJ_at hJ 3 rfl) dX13_token_21 ?_
  refine lv_aload_n hx hb dX13_token_24 rfl (lv_at hl 0 rfl) ?_
  refine va_get (D := (dC, dI)) (ci := 13) (v := .int 0) (C := RX13) (T := TX13) (N := 180) hx hb hts iX13 hown hK hP 0 rfl rfl 6 (by decide) (hts _ (bP 161 rfl)) (fun _ h9 => h9) (kJ_at hJ 5 rfl) dX13_token_25 ?_
  refine lv_iload_n hx hb dX13_token_28 rfl (lv_at hl 3 rfl) ?_
  refine kq_iast hx hb hK hP hD hS 3 2 rfl rfl (by unfold vp_in; decide) dX13_token_29 (fun H locs f9 ef9 hP hD hS => ?_)
  have hP : va_P (dC, dI) vwCl [(h0, .inr (13, fs)), (q7, .inl (c7, 12002, .inl f7)), (q8, .inl (c8, 12002, .inl f8)), (q9, .inl (c9, 12002, .inl f9)), (q10, .inl (c10, 12002, .inl f10))] H := hP
  have hD : va_D A [(h0, .inr (13, fs)), (q7, .inl (c7, 12002, .inl f7)), (q8, .inl (c8, 12002, .inl f8)), (q9, .inl (c9, 12002, .inl f9)), (q10, .inl (c10, 12002, .inl f10))] := hD
  refine lv_aload_n hx hb dX13_token_30 rfl (lv_at hl 0 rfl) ?_
  refine va_get (D := (dC, dI)) (ci := 13) (v := .ref q10) (C := RX13) (T := TX13) (N := 180) hx hb hts iX13 hown hK hP 0 rfl rfl 10 (by decide) (hts _ (bP 15 rfl)) (fun _ h9 => h9) (kJ_at hJ 4 rfl) dX13_token_31 ?_
  refine lv_aload_n hx hb dX13_token_34 rfl (lv_at hl 0 rfl) ?_
  refine va_get (D := (dC, dI)) (ci := 13) (v := .int 0) (C := RX13) (T := TX13) (N := 180) hx hb hts iX13 hown hK hP 0 rfl rfl 6 (by decide) (hts _ (bP 161 rfl)) (fun _ h9 => h9) (kJ_at hJ 5 rfl) dX13_token_35 ?_
  refine lv_iload hx hb dX13_token_38 (lv_at hl 4 rfl) ?_
  refine kq_iast hx hb hK hP hD hS 4 3 rfl rfl (by unfold vp_in; decide) dX13_token_40 (fun H locs f10 ef10 hP hD hS => ?_)
  have hP : va_P (dC, dI) vwCl [(h0, .inr (13, fs)), (q7, .inl (c7, 12002, .inl f7)), (q8, .inl (c8, 12002, .inl f8)), (q9, .inl (c9, 12002, .inl f9)), (q10, .inl (c10, 12002, .inl f10))] H := hP
  have hD : va_D A [(h0, .inr (13, fs)), (q7, .inl (c7, 12002, .inl f7)), (q8, .inl (c8, 12002, .inl f8)), (q9, .inl (c9, 12002, .inl f9)), (q10, .inl (c10, 12002, .inl f10))] := hD
  refine lv_aload_n hx hb dX13_token_41 rfl (lv_at hl 0 rfl) ?_
  refine lv_dup hx hb dX13_token_42 rfl ?_
  refine va_get (D := (dC, dI)) (ci := 13) (v := .int 0) (C := RX13) (T := TX13) (N := 180) hx hb hts iX13 hown hK hP 0 rfl rfl 6 (by decide) (hts _ (bP 161 rfl)) (fun _ h9 => h9) (kJ_at hJ 5 rfl) dX13_token_43 ?_
  refine lv_iconst (v := 1) hx hb dX13_token_46 (by decide) ?_
  refine lv_iadd hx hb dX13_token_47 ?_
  refine k_i (v := 1) (by decide) ?_
  refine kq_put [(6, .int 1), (0, .ref qh), (7, .ref q7), (8, .ref q8), (9, .ref q9), (10, .ref q10)] hts iX13 tyX13 tyX13_ok nmX13 hx hb hown hK hP hD hS 0 rfl rfl hJ 6 (by decide) (by decide) (hts _ (bP 161 rfl)) rfl (ty := .int) (by decide +kernel) (v := .int 1) rfl rfl dX13_token_48 (fun f h => kJ_put h _ _ (by decide)) (fun H locs fs hJ hP hD hS => ?_)
  have hP : va_P (dC, dI) vwCl [(h0, .inr (13, fs)), (q7, .inl (c7, 12002, .inl f7)), (q8, .inl (c8, 12002, .inl f8)), (q9, .inl (c9, 12002, .inl f9)), (q10, .inl (c10, 12002, .inl f10))] H := hP
  have hD : va_D A [(h0, .inr (13, fs)), (q7, .inl (c7, 12002, .inl f7)), (q8, .inl (c8, 12002, .inl f8)), (q9, .inl (c9, 12002, .inl f9)), (q10, .inl (c10, 12002, .inl f10))] := hD
  exact W.vret hx hb hr (fun t ht hW => ⟨⟨(fs, f7, f8, f9, f10), rfl, ⟨hJ, by rw [ef7, sb_cl0]; exact pk_us, by rw [ef9, sb_cl0]; exact pk_us⟩, by rw [ht]; exact hP, va_K.moved hW.alike hK, hD⟩, hS.F ht⟩) hS.2.2 dX13_token_51
set_option maxHeartbeats 4000000 in
set_option maxRecDepth 100000 in
/-- an empty tape: the end alone -/
theorem c_M_scanAll (l : Launch) (dC : Nat → ClassId) (dI : Nat → Nat → Nat) (h0 sz : Nat) (fs : List Value) (qh : Nat) (q7 : Nat) (q8 : Nat) (q9 : Nat) (q10 : Nat) (c7 : ClassId) (c8 : ClassId) (c9 : ClassId) (c10 : ClassId) (f7 : Nat → Int32) (f8 : Nat → Int32) (f9 : Nat → Int32) (f10 : Nat → Int32) : Met l yX13_scanAll (.code yX13_scanAll cX13_scanAll 7 none :: wP) ({ frames := 1, cells := 0, slots := 0, locals := 24 }) (va_Pc [.ref h0] (fun U => U.heap.size = sz ∧ kJ 180 [(0, .ref qh), (7, .ref q7), (8, .ref q8), (9, .ref q9), (10, .ref q10), (3, .int 0)] fs ∧ va_P (dC, dI) vwCl [(h0, .inr (13, fs)), (q7, .inl (c7, 12002, .inl f7)), (q8, .inl (c8, 12002, .inl f8)), (q9, .inl (c9, 12002, .inl f9)), (q10, .inl (c10, 12002, .inl f10))] U.heap ∧ va_K (dC, dI) vwCl [(c7, .int), (c8, .int), (c9, .int), (c10, .int)] U ∧ va_D (fun _ => True) [(h0, .inr (13, fs)), (q7, .inl (c7, 12002, .inl f7)), (q8, .inl (c8, 12002, .inl f8)), (q9, .inl (c9, 12002, .inl f9)), (q10, .inl (c10, 12002, .inl f10))])) (va_Qv (fun u : (List Value × (Nat → Int32) × (Nat → Int32) × (Nat → Int32) × (Nat → Int32)) => match u with | (fs, f7, f8, f9, f10) => kJ 180 [(0, .ref qh), (7, .ref q7), (8, .ref q8), (9, .ref q9), (10, .ref q10)] fs ∧ f7 0 = 75 ∧ f9 0 = 1) (fun (u : (List Value × (Nat → Int32) × (Nat → Int32) × (Nat → Int32) × (Nat → Int32))) (t : State) => match u with | (gs, g7, g8, g9, g10) => va_P (dC, dI) vwCl [(h0, .inr (13, gs)), (q7, .inl (c7, 12002, .inl g7)), (q8, .inl (c8, 12002, .inl g8)), (q9, .inl (c9, 12002, .inl g9)), (q10, .inl (c10, 12002, .inl g10))] t.heap ∧ va_K (dC, dI) vwCl [(c7, .int), (c8, .int), (c9, .int), (c10, .int)] t ∧ va_D (va_A [(h0, .inr (13, fs)), (q7, .inl (c7, 12002, .inl f7)), (q8, .inl (c8, 12002, .inl f8)), (q9, .inl (c9, 12002, .inl f9)), (q10, .inl (c10, 12002, .inl f10))] sz) [(h0, .inr (13, gs)), (q7, .inl (c7, 12002, .inl g7)), (q8, .inl (c8, 12002, .inl g8)), (q9, .inl (c9, 12002, .inl g9)), (q10, .inl (c10, 12002, .inl g10))]) (va_A [(h0, .inr (13, fs)), (q7, .inl (c7, 12002, .inl f7)), (q8, .inl (c8, 12002, .inl f8)), (q9, .inl (c9, 12002, .inl f9)), (q10, .inl (c10, 12002, .inl f10))] sz)) 0 0 (va_A [(h0, .inr (13, fs)), (q7, .inl (c7, 12002, .inl f7)), (q8, .inl (c8, 12002, .inl f8)), (q9, .inl (c9, 12002, .inl f9)), (q10, .inl (c10, 12002, .inl f10))] sz) := by
  refine Met.ofW (cc := cX13_scanAll) (maxL := 7) (ret := none) (by decide) rfl ?_
  intro p e s m args below meth c s₁ B hml hv
  obtain ⟨rfl, hsz, hJ, hP, hK, hD0⟩ := hv
  have hx := B.exec
  have hb := B.bytes
  have hr := B.returns
  have hts := atoms_spec (ws := .code yX13_scanAll cX13_scanAll 7 none :: wP) B.pre
  have hown : s.vm.findClass RX13 = some m.cls := findClass_of_methodNamed B.named
  subst hsz
  have hD := hD0.self (sz := s.heap.size)
  generalize hAe : va_A [(h0, .inr (13, fs)), (q7, .inl (c7, 12002, .inl f7)), (q8, .inl (c8, 12002, .inl f8)), (q9, .inl (c9, 12002, .inl f9)), (q10, .inl (c10, 12002, .inl f10))] s.heap.size = A at hD ⊢
  have hA : ∀ q : Nat, s.heap.size ≤ q → A q := fun q h => by rw [← hAe]; exact Or.inr h
  have hS : va_S A s.heap s.heap [] := va_S.rf
  have hl := lv_entry ([.ref h0]) (n := 7) (Nat.le_of_ble_eq_true rfl)
  rw [lg_entry_eq]
  generalize (lg_sl ([.ref h0]) ++ List.replicate (7 - (lg_sl ([.ref h0])).length) Slot.unset).toArray = ls at hl ⊢
  obtain ⟨H, hHe⟩ : ∃ H, H = s.heap := ⟨_, rfl⟩
  rw [← hHe] at hP ⊢
  have hS : va_S A s.heap H [] := by rw [hHe]; exact hS
  have hl : lv_has ls 7 [(0, .ref h0)] := hl
  refine lv_aload_n hx hb dX13_scanAll_0 rfl (lv_at hl 0 rfl) ?_
  refine lv_iconst (v := 0) hx hb dX13_scanAll_1 (by decide) ?_
  refine kq_put [(6, .int 0), (0, .ref qh), (7, .ref q7), (8, .ref q8), (9, .ref q9), (10, .ref q10), (3, .int 0)] hts iX13 tyX13 tyX13_ok nmX13 hx hb hown hK hP hD hS 0 rfl rfl hJ 6 (by decide) (by decide) (hts _ (bP 161 rfl)) rfl (ty := .int) (by decide +kernel) (v := .int 0) rfl rfl dX13_scanAll_2 (fun f h => kJ_put h _ _ (by decide)) (fun H locs fs hJ hP hD hS => ?_)
  have hP : va_P (dC, dI) vwCl [(h0, .inr (13, fs)), (q7, .inl (c7, 12002, .inl f7)), (q8, .inl (c8, 12002, .inl f8)), (q9, .inl (c9, 12002, .inl f9)), (q10, .inl (c10, 12002, .inl f10))] H := hP
  have hD : va_D A [(h0, .inr (13, fs)), (q7, .inl (c7, 12002, .inl f7)), (q8, .inl (c8, 12002, .inl f8)), (q9, .inl (c9, 12002, .inl f9)), (q10, .inl (c10, 12002, .inl f10))] := hD
  refine lv_aload_n hx hb dX13_scanAll_5 rfl (lv_at hl 0 rfl) ?_
  refine lv_iconst (v := 0) hx hb dX13_scanAll_6 (by decide) ?_
  refine kq_put [(13, .int 0), (6, .int 0), (0, .ref qh), (7, .ref q7), (8, .ref q8), (9, .ref q9), (10, .ref q10), (3, .int 0)] hts iX13 tyX13 tyX13_ok nmX13 hx hb hown hK hP hD hS 0 rfl rfl hJ 13 (by decide) (by decide) (hts _ (bP 163 rfl)) rfl (ty := .int) (by decide +kernel) (v := .int 0) rfl rfl dX13_scanAll_7 (fun f h => kJ_put h _ _ (by decide)) (fun H locs fs hJ hP hD hS => ?_)
  have hP : va_P (dC, dI) vwCl [(h0, .inr (13, fs)), (q7, .inl (c7, 12002, .inl f7)), (q8, .inl (c8, 12002, .inl f8)), (q9, .inl (c9, 12002, .inl f9)), (q10, .inl (c10, 12002, .inl f10))] H := hP
  have hD : va_D A [(h0, .inr (13, fs)), (q7, .inl (c7, 12002, .inl f7)), (q8, .inl (c8, 12002, .inl f8)), (q9, .inl (c9, 12002, .inl f9)), (q10, .inl (c10, 12002, .inl f10))] := hD
  refine lv_aload_n hx hb dX13_scanAll_10 rfl (lv_at hl 0 rfl) ?_
  refine lv_iconst (v := 0) hx hb dX13_scanAll_11 (by decide) ?_
  refine kq_put [(17, .int 0), (13, .int 0), (6, .int 0), (0, .ref qh), (7, .ref q7), (8, .ref q8), (9, .ref q9), (10, .ref q10), (3, .int 0)] hts iX13 tyX13 tyX13_ok nmX13 hx hb hown hK hP hD hS 0 rfl rfl hJ 17 (by decide) (by decide) (hts _ (bP 164 rfl)) rfl (ty := .int) (by decide +kernel) (v := .int 0) rfl rfl dX13_scanAll_12 (fun f h => kJ_put h _ _ (by decide)) (fun H locs fs hJ hP hD hS => ?_)
  have hP : va_P (dC, dI) vwCl [(h0, .inr (13, fs)), (q7, .inl (c7, 12002, .inl f7)), (q8, .inl (c8, 12002, .inl f8)), (q9, .inl (c9, 12002, .inl f9)), (q10, .inl (c10, 12002, .inl f10))] H := hP
  have hD : va_D A [(h0, .inr (13, fs)), (q7, .inl (c7, 12002, .inl f7)), (q8, .inl (c8, 12002, .inl f8)), (q9, .inl (c9, 12002, .inl f9)), (q10, .inl (c10, 12002, .inl f10))] := hD
  refine lv_aload_n hx hb dX13_scanAll_15 rfl (lv_at hl 0 rfl) ?_
  refine lv_iconst (v := 0) hx hb dX13_scanAll_16 (by decide) ?_
  refine kq_put [(18, .int 0), (17, .int 0), (13, .int 0), (6, .int 0), (0, .ref qh), (7, .ref q7), (8, .ref q8), (9, .ref q9), (10, .ref q10), (3, .int 0)] hts iX13 tyX13 tyX13_ok nmX13 hx hb hown hK hP hD hS 0 rfl rfl hJ 18 (by decide) (by decide) (hts _ (bP 165 rfl)) rfl (ty := .int) (by decide +kernel) (v := .int 0) rfl rfl dX13_scanAll_17 (fun f h => kJ_put h _ _ (by decide)) (fun H locs fs hJ hP hD hS => ?_)
  have hP : va_P (dC, dI) vwCl [(h0, .inr (13, fs)), (q7, .inl (c7, 12002, .inl f7)), (q8, .inl (c8, 12002, .inl f8)), (q9, .inl (c9, 12002, .inl f9)), (q10, .inl (c10, 12002, .inl f10))] H := hP
  have hD : va_D A [(h0, .inr (13, fs)), (q7, .inl (c7, 12002, .inl f7)), (q8, .inl (c8, 12002, .inl f8)), (q9, .inl (c9, 12002, .inl f9)), (q10, .inl (c10, 12002, .inl f10))] := hD
  refine lv_aload_n hx hb dX13_scanAll_20 rfl (lv_at hl 0 rfl) ?_
  refine lv_iconst (v := 0) hx hb dX13_scanAll_21 (by decide) ?_
  refine kq_put [(22, .int 0), (18, .int 0), (17, .int 0), (13, .int 0), (6, .int 0), (0, .ref qh), (7, .ref q7), (8, .ref q8), (9, .ref q9), (10, .ref q10), (3, .int 0)] hts iX13 tyX13 tyX13_ok nmX13 hx hb hown hK hP hD hS 0 rfl rfl hJ 22 (by decide) (by decide) (hts _ (bP 166 rfl)) rfl (ty := .int) (by decide +kernel) (v := .int 0) rfl rfl dX13_scanAll_22 (fun f h => kJ_put h _ _ (by decide)) (fun H locs fs hJ hP hD hS => ?_)
  have hP : va_P (dC, dI) vwCl [(h0, .inr (13, fs)), (q7, .inl (c7, 12002, .inl f7)), (q8, .inl (c8, 12002, .inl f8)), (q9, .inl (c9, 12002, .inl f9)), (q10, .inl (c10, 12002, .inl f10))] H := hP
  have hD : va_D A [(h0, .inr (13, fs)), (q7, .inl (c7, 12002, .inl f7)), (q8, .inl (c8, 12002, .inl f8)), (q9, .inl (c9, 12002, .inl f9)), (q10, .inl (c10, 12002, .inl f10))] := hD
  refine lv_aload_n hx hb dX13_scanAll_25 rfl (lv_at hl 0 rfl) ?_
  refine lv_iconst (v := 0) hx hb dX13_scanAll_26 (by decide) ?_
  refine kq_put [(11, .int 0), (22, .int 0), (18, .int 0), (17, .int 0), (13, .int 0), (6, .int 0), (0, .ref qh), (7, .ref q7), (8, .ref q8), (9, .ref q9), (10, .ref q10), (3, .int 0)] hts iX13 tyX13 tyX13_ok nmX13 hx hb hown hK hP hD hS 0 rfl rfl hJ 11 (by decide) (by decide) (hts _ (bP 167 rfl)) rfl (ty := .int) (by decide +kernel) (v := .int 0) rfl rfl dX13_scanAll_27 (fun f h => kJ_put h _ _ (by decide)) (fun H locs fs hJ hP hD hS => ?_)
  have hP : va_P (dC, dI) vwCl [(h0, .inr (13, fs)), (q7, .inl (c7, 12002, .inl f7)), (q8, .inl (c8, 12002, .inl f8)), (q9, .inl (c9, 12002, .inl f9)), (q10, .inl (c10, 12002, .inl f10))] H := hP
  have hD : va_D A [(h0, .inr (13, fs)), (q7, .inl (c7, 12002, .inl f7)), (q8, .inl (c8, 12002, .inl f8)), (q9, .inl (c9, 12002, .inl f9)), (q10, .inl (c10, 12002, .inl f10))] := hD
  refine lv_aload_n hx hb dX13_scanAll_30 rfl (lv_at hl 0 rfl) ?_
  refine lv_iconst (v := 0) hx hb dX13_scanAll_31 (by decide) ?_
  refine kq_put [(12, .int 0), (11, .int 0), (22, .int 0), (18, .int 0), (17, .int 0), (13, .int 0), (6, .int 0), (0, .ref qh), (7, .ref q7), (8, .ref q8), (9, .ref q9), (10, .ref q10), (3, .int 0)] hts iX13 tyX13 tyX13_ok nmX13 hx hb hown hK hP hD hS 0 rfl rfl hJ 12 (by decide) (by decide) (hts _ (bP 168 rfl)) rfl (ty := .int) (by decide +kernel) (v := .int 0) rfl rfl dX13_scanAll_32 (fun f h => kJ_put h _ _ (by decide)) (fun H locs fs hJ hP hD hS => ?_)
  have hP : va_P (dC, dI) vwCl [(h0, .inr (13, fs)), (q7, .inl (c7, 12002, .inl f7)), (q8, .inl (c8, 12002, .inl f8)), (q9, .inl (c9, 12002, .inl f9)), (q10, .inl (c10, 12002, .inl f10))] H := hP
  have hD : va_D A [(h0, .inr (13, fs)), (q7, .inl (c7, 12002, .inl f7)), (q8, .inl (c8, 12002, .inl f8)), (q9, .inl (c9, 12002, .inl f9)), (q10, .inl (c10, 12002, .inl f10))] := hD
  refine lv_aload_n hx hb dX13_scanAll_35 rfl (lv_at hl 0 rfl) ?_
  refine lv_iconst (v := 0) hx hb dX13_scanAll_36 (by decide) ?_
  refine kq_put [(23, .int 0), (12, .int 0), (11, .int 0), (22, .int 0), (18, .int 0), (17, .int 0), (13, .int 0), (6, .int 0), (0, .ref qh), (7, .ref q7), (8, .ref q8), (9, .ref q9), (10, .ref q10), (3, .int 0)] hts iX13 tyX13 tyX13_ok nmX13 hx hb hown hK hP hD hS 0 rfl rfl hJ 23 (by decide) (by decide) (hts _ (bP 169 rfl)) rfl (ty := .int) (by decide +kernel) (v := .int 0) rfl rfl dX13_scanAll_37 (fun f h => kJ_put h _ _ (by decide)) (fun H locs fs hJ hP hD hS => ?_)
  have hP : va_P (dC, dI) vwCl [(h0, .inr (13, fs)), (q7, .inl (c7, 12002, .inl f7)), (q8, .inl (c8, 12002, .inl f8)), (q9, .inl (c9, 12002, .inl f9)), (q10, .inl (c10, 12002, .inl f10))] H := hP
  have hD : va_D A [(h0, .inr (13, fs)), (q7, .inl (c7, 12002, .inl f7)), (q8, .inl (c8, 12002, .inl f8)), (q9, .inl (c9, 12002, .inl f9)), (q10, .inl (c10, 12002, .inl f10))] := hD
  refine lv_iconst (v := 1) hx hb dX13_scanAll_40 (by decide) ?_
  refine lv_istore_n (lv' := [(1, .int 1), (0, .ref h0)]) hx hb dX13_scanAll_41 rfl hl (by decide) rfl (fun ls hl => ?_)
  refine lv_iconst (v := 1) hx hb dX13_scanAll_42 (by decide) ?_
  refine lv_istore_n (lv' := [(2, .int 1), (1, .int 1), (0, .ref h0)]) hx hb dX13_scanAll_43 rfl hl (by decide) rfl (fun ls hl => ?_)
  refine lv_aload_n hx hb dX13_scanAll_44 rfl (lv_at hl 2 rfl) ?_
  refine va_get (D := (dC, dI)) (ci := 13) (v := .int 0) (C := RX13) (T := TX13) (N := 180) hx hb hts iX13 hown hK hP 0 rfl rfl 23 (by decide) (hts _ (bP 169 rfl)) (fun _ h9 => h9) (kJ_at hJ 0 rfl) dX13_scanAll_45 ?_
  refine lv_aload_n hx hb dX13_scanAll_48 rfl (lv_at hl 2 rfl) ?_
  refine va_get (D := (dC, dI)) (ci := 13) (v := .int 0) (C := RX13) (T := TX13) (N := 180) hx hb hts iX13 hown hK hP 0 rfl rfl 3 (by decide) (hts _ (bP 139 rfl)) (fun _ h9 => h9) (kJ_at hJ 13 rfl) dX13_scanAll_49 ?_
  refine lv_icmp_ge (tgt := 347) hx hb dX13_scanAll_52 (by decide) (fun _ => ?_) (fun h => absurd h (by decide))
  refine lv_aload_n hx hb dX13_scanAll_347 rfl (lv_at hl 2 rfl) ?_
  refine lv_bipush (v := 75) hx hb dX13_scanAll_348 (by decide) ?_
  refine lv_iconst (v := 0) hx hb dX13_scanAll_350 (by decide) ?_
  refine lv_iload_n hx hb dX13_scanAll_351 rfl (lv_at hl 1 rfl) ?_
  refine lv_iconst (v := (-1)) hx hb dX13_scanAll_352 (by decide) ?_
  have hPc := hP.sub (ws' := [(h0, .inr (13, fs)), (q7, .inl (c7, 12002, .inl f7)), (q8, .inl (c8, 12002, .inl f8)), (q9, .inl (c9, 12002, .inl f9)), (q10, .inl (c10, 12002, .inl f10))]) [0, 1, 2, 3, 4] rfl
  have hDc := hD.sub (ws' := [(h0, .inr (13, fs)), (q7, .inl (c7, 12002, .inl f7)), (q8, .inl (c8, 12002, .inl f8)), (q9, .inl (c9, 12002, .inl f9)), (q10, .inl (c10, 12002, .inl f10))]) [0, 1, 2, 3, 4] (by decide) rfl
  have hKc := hK.sub (tys' := [(c7, .int), (c8, .int), (c9, .int), (c10, .int)]) [0, 1, 2, 3] rfl
  have hFc := va_free (wc := [(h0, .inr (13, fs)), (q7, .inl (c7, 12002, .inl f7)), (q8, .inl (c8, 12002, .inl f8)), (q9, .inl (c9, 12002, .inl f9)), (q10, .inl (c10, 12002, .inl f10))]) hD hS hA [0, 1, 2, 3, 4] rfl
  refine va_callv (va_runV (As := [.int 75, .int 0, .int 1, .int ((-1))]) (rest := []) ⟨hx, hb, hml, hown, hts⟩ (c_M_token l dC dI h0 H.size fs qh q7 q8 q9 q10 c7 c8 c9 c10 f7 f8 f9 f10 75 0 1 (-1)) (cwV 4 hts (gV (y := yX13_token) _ 170 171 172 149 160 rfl rfl rfl rfl rfl) rfl rfl rfl (by decide +kernel) ⟨Nat.le_of_ble_eq_true rfl, Nat.le_of_ble_eq_true rfl⟩) ⟨fun a U g mk q => by obtain ⟨q0, q1, qJ, qP, qK, qD⟩ := q; exact ⟨q0, q1, qJ, qP, va_K.moved (u := U) (U := U.calling g mk a) (Vm.Alike.refl U.vm) qK, qD⟩, va_recv hKc hPc (ci := 13) (q0 := 0) rfl rfl, fun U hU hW => ⟨rfl, by rw [hU], kJ_sub hJ (by simp), by rw [hU]; exact hPc, va_K.moved hW.alike hKc, hDc.weaken (fun _ _ _ _ => trivial)⟩⟩ rfl rfl hl.1 rfl (lv_room (Nat.le_of_ble_eq_true rfl)) dX13_scanAll_353 ⟨Nat.le_of_ble_eq_true rfl, Nat.le_of_ble_eq_true rfl⟩) hS (fun q _ h => hFc q h) hFc (fun u t H1 locs ht hvm hw hB hz1 hk1 hS => ?_)
  obtain ⟨fs, f7, f8, f9, f10⟩ := u
  obtain ⟨hJ, h7, h9⟩ := hw
  obtain ⟨hP1, hK1, hD1⟩ := hB
  rw [ht] at hP1
  have hK1 := va_K.moved hvm.symm hK1
  obtain ⟨hP, hD⟩ := va_join (wr := []) (w1 := [(h0, .inr (13, fs)), (q7, .inl (c7, 12002, .inl f7)), (q8, .inl (c8, 12002, .inl f8)), (q9, .inl (c9, 12002, .inl f9)), (q10, .inl (c10, 12002, .inl f10))]) hP hD [0, 1, 2, 3, 4] [] rfl rfl (by decide) (by decide) hk1 hFc hP1 hD1
  have hK := (hK.sub (tys' := []) [] rfl).app hK1
  clear hPc hDc hKc hFc hP1 hK1 hD1 hk1 hz1
  generalize H1 = H at hP hS ⊢
  have hP : va_P (dC, dI) vwCl [(h0, .inr (13, fs)), (q7, .inl (c7, 12002, .inl f7)), (q8, .inl (c8, 12002, .inl f8)), (q9, .inl (c9, 12002, .inl f9)), (q10, .inl (c10, 12002, .inl f10))] H := hP
  have hD : va_D A [(h0, .inr (13, fs)), (q7, .inl (c7, 12002, .inl f7)), (q8, .inl (c8, 12002, .inl f8)), (q9, .inl (c9, 12002, .inl f9)), (q10, .inl (c10, 12002, .inl f10))] := hD
  have hK : va_K (dC, dI) vwCl [(c7, .int), (c8, .int), (c9, .int), (c10, .int)] s := hK
  exact W.vret hx hb hr (fun t ht hW => ⟨⟨(fs, f7, f8, f9, f10), rfl, ⟨kJ_sub hJ (by simp), h7, h9⟩, by rw [ht]; exact hP, va_K.moved hW.alike hK, hD⟩, hS.F ht⟩) hS.2.2 dX13_scanAll_356
set_option maxHeartbeats 4000000 in
set_option maxRecDepth 100000 in
/-- the end -/
theorem c_M_look (l : Launch) (dC : Nat → ClassId) (dI : Nat → Nat → Nat) (h0 sz : Nat) (fs fsH : List Value) (qh q7 q9 : Nat) (c7 c9 : ClassId) (f7 f9 : Nat → Int32) : Met l yX13_look (.code yX13_look cX13_look 1 (some .int) :: wP) ({ frames := 0, cells := 0, slots := 0, locals := 0 }) (va_Pc [.ref h0] (fun U => U.heap.size = sz ∧ kJ 180 [(0, .ref qh), (7, .ref q7), (9, .ref q9), (35, .int 0)] fs ∧ f7 0 = 75 ∧ f9 0 = 1 ∧ va_P (dC, dI) vwCl [(h0, .inr (13, fs)), (qh, .inr (12, fsH)), (q7, .inl (c7, 12002, .inl f7)), (q9, .inl (c9, 12002, .inl f9))] U.heap ∧ va_K (dC, dI) vwCl [(c7, .int), (c9, .int)] U ∧ va_D (fun _ => True) [(h0, .inr (13, fs)), (qh, .inr (12, fsH)), (q7, .inl (c7, 12002, .inl f7)), (q9, .inl (c9, 12002, .inl f9))])) (va_Qi (fun r (_ : Unit) => r = 75) (fun (_ : Unit) (t : State) => va_P (dC, dI) vwCl [(h0, .inr (13, fs)), (qh, .inr (12, fsH)), (q7, .inl (c7, 12002, .inl f7)), (q9, .inl (c9, 12002, .inl f9))] t.heap ∧ va_K (dC, dI) vwCl [(c7, .int), (c9, .int)] t ∧ va_D (va_A [(h0, .inr (13, fs)), (qh, .inr (12, fsH)), (q7, .inl (c7, 12002, .inl f7)), (q9, .inl (c9, 12002, .inl f9))] sz) [(h0, .inr (13, fs)), (qh, .inr (12, fsH)), (q7, .inl (c7, 12002, .inl f7)), (q9, .inl (c9, 12002, .inl f9))]) (va_A [(h0, .inr (13, fs)), (qh, .inr (12, fsH)), (q7, .inl (c7, 12002, .inl f7)), (q9, .inl (c9, 12002, .inl f9))] sz)) 0 0 (va_A [(h0, .inr (13, fs)), (qh, .inr (12, fsH)), (q7, .inl (c7, 12002, .inl f7)), (q9, .inl (c9, 12002, .inl f9))] sz) := by
  refine Met.ofW (cc := cX13_look) (maxL := 1) (ret := (some .int)) (by decide) rfl ?_
  intro p e s m args below meth c s₁ B hml hv
  obtain ⟨rfl, hsz, hJ, h7, h9, hP, hK, hD0⟩ := hv
  have hx := B.exec
  have hb := B.bytes
  have hr := B.returns
  have hts := atoms_spec (ws := .code yX13_look cX13_look 1 (some .int) :: wP) B.pre
  have hown : s.vm.findClass RX13 = some m.cls := findClass_of_methodNamed B.named
  subst hsz
  have hD := hD0.self (sz := s.heap.size)
  generalize hAe : va_A [(h0, .inr (13, fs)), (qh, .inr (12, fsH)), (q7, .inl (c7, 12002, .inl f7)), (q9, .inl (c9, 12002, .inl f9))] s.heap.size = A at hD ⊢
  have hA : ∀ q : Nat, s.heap.size ≤ q → A q := fun q h => by rw [← hAe]; exact Or.inr h
  have hS : va_S A s.heap s.heap [] := va_S.rf
  have hl := lv_entry ([.ref h0]) (n := 1) (Nat.le_of_ble_eq_true rfl)
  rw [lg_entry_eq]
  generalize (lg_sl ([.ref h0]) ++ List.replicate (1 - (lg_sl ([.ref h0])).length) Slot.unset).toArray = ls at hl ⊢
  obtain ⟨H, hHe⟩ : ∃ H, H = s.heap := ⟨_, rfl⟩
  rw [← hHe] at hP ⊢
  have hS : va_S A s.heap H [] := by rw [hHe]; exact hS
  have hl : lv_has ls 1 [(0, .ref h0)] := hl
  refine lv_aload_n hx hb dX13_look_0 rfl (lv_at hl 0 rfl) ?_
  refine va_get (D := (dC, dI)) (ci := 13) (v := .ref q7) (C := RX13) (T := TX13) (N := 180) hx hb hts iX13 hown hK hP 0 rfl rfl 7 (by decide) (hts _ (bP 12 rfl)) (fun _ h9 => h9) (kJ_at hJ 1 rfl) dX13_look_1 ?_
  refine lv_aload_n hx hb dX13_look_4 rfl (lv_at hl 0 rfl) ?_
  refine va_get (D := (dC, dI)) (ci := 13) (v := .int 0) (C := RX13) (T := TX13) (N := 180) hx hb hts iX13 hown hK hP 0 rfl rfl 35 (by decide) (hts _ (bP 174 rfl)) (fun _ h9 => h9) (kJ_at hJ 3 rfl) dX13_look_5 ?_
  refine va_iald hx hb hK hP 2 0 rfl rfl (by unfold vp_in; decide) dX13_look_8 ?_
  refine k_i (v := 75) h7 ?_
  exact W.iret (v := 75) hx hb hr (fun t ht hW => ⟨⟨75, (), rfl, rfl, by rw [ht]; exact hP, va_K.moved hW.alike hK, hD⟩, hS.F ht⟩) hS.2.2 dX13_look_9
set_option maxHeartbeats 4000000 in
set_option maxRecDepth 100000 in
/-- no line is there -/
theorem c_M_isAt (l : Launch) (dC : Nat → ClassId) (dI : Nat → Nat → Nat) (h0 sz : Nat) (fs fsH : List Value) (qh q7 q9 : Nat) (c7 c9 : ClassId) (f7 f9 : Nat → Int32) (a1 : Int32) : Met l yX13_isAt (.code yX13_isAt cX13_isAt 2 (some .boolean) :: wP) ({ frames := 1, cells := 0, slots := 0, locals := 20 }) (va_Pc [.ref h0, .int a1] (fun U => U.heap.size = sz ∧ kJ 180 [(0, .ref qh), (7, .ref q7), (9, .ref q9), (35, .int 0)] fs ∧ f7 0 = 75 ∧ f9 0 = 1 ∧ va_P (dC, dI) vwCl [(h0, .inr (13, fs)), (qh, .inr (12, fsH)), (q7, .inl (c7, 12002, .inl f7)), (q9, .inl (c9, 12002, .inl f9))] U.heap ∧ va_K (dC, dI) vwCl [(c7, .int), (c9, .int)] U ∧ va_D (fun _ => True) [(h0, .inr (13, fs)), (qh, .inr (12, fsH)), (q7, .inl (c7, 12002, .inl f7)), (q9, .inl (c9, 12002, .inl f9))])) (va_Qi (fun r (_ : Unit) => r = 0) (fun (_ : Unit) (t : State) => va_P (dC, dI) vwCl [(h0, .inr (13, fs)), (qh, .inr (12, fsH)), (q7, .inl (c7, 12002, .inl f7)), (q9, .inl (c9, 12002, .inl f9))] t.heap ∧ va_K (dC, dI) vwCl [(c7, .int), (c9, .int)] t ∧ va_D (va_A [(h0, .inr (13, fs)), (qh, .inr (12, fsH)), (q7, .inl (c7, 12002, .inl f7)), (q9, .inl (c9, 12002, .inl f9))] sz) [(h0, .inr (13, fs)), (qh, .inr (12, fsH)), (q7, .inl (c7, 12002, .inl f7)), (q9, .inl (c9, 12002, .inl f9))]) (va_A [(h0, .inr (13, fs)), (qh, .inr (12, fsH)), (q7, .inl (c7, 12002, .inl f7)), (q9, .inl (c9, 12002, .inl f9))] sz)) 0 0 (va_A [(h0, .inr (13, fs)), (qh, .inr (12, fsH)), (q7, .inl (c7, 12002, .inl f7)), (q9, .inl (c9, 12002, .inl f9))] sz) := by
  refine Met.ofW (cc := cX13_isAt) (maxL := 2) (ret := (some .boolean)) (by decide) rfl ?_
  intro p e s m args below meth c s₁ B hml hv
  obtain ⟨rfl, hsz, hJ, h7, h9, hP, hK, hD0⟩ := hv
  have hx := B.exec
  have hb := B.bytes
  have hr := B.returns
  have hts := atoms_spec (ws := .code yX13_isAt cX13_isAt 2 (some .boolean) :: wP) B.pre
  have hown : s.vm.findClass RX13 = some m.cls := findClass_of_methodNamed B.named
  subst hsz
  have hD := hD0.self (sz := s.heap.size)
  generalize hAe : va_A [(h0, .inr (13, fs)), (qh, .inr (12, fsH)), (q7, .inl (c7, 12002, .inl f7)), (q9, .inl (c9, 12002, .inl f9))] s.heap.size = A at hD ⊢
  have hA : ∀ q : Nat, s.heap.size ≤ q → A q := fun q h => by rw [← hAe]; exact Or.inr h
  have hS : va_S A s.heap s.heap [] := va_S.rf
  have hl := lv_entry ([.ref h0, .int a1]) (n := 2) (Nat.le_of_ble_eq_true rfl)
  rw [lg_entry_eq]
  generalize (lg_sl ([.ref h0, .int a1]) ++ List.replicate (2 - (lg_sl ([.ref h0, .int a1])).length) Slot.unset).toArray = ls at hl ⊢
  obtain ⟨H, hHe⟩ : ∃ H, H = s.heap := ⟨_, rfl⟩
  rw [← hHe] at hP ⊢
  have hS : va_S A s.heap H [] := by rw [hHe]; exact hS
  have hl : lv_has ls 2 [(0, .ref h0), (1, .int a1)] := hl
  refine lv_aload_n hx hb dX13_isAt_0 rfl (lv_at hl 0 rfl) ?_
  have hPc := hP.sub (ws' := [(h0, .inr (13, fs)), (qh, .inr (12, fsH)), (q7, .inl (c7, 12002, .inl f7)), (q9, .inl (c9, 12002, .inl f9))]) [0, 1, 2, 3] rfl
  have hDc := hD.sub (ws' := [(h0, .inr (13, fs)), (qh, .inr (12, fsH)), (q7, .inl (c7, 12002, .inl f7)), (q9, .inl (c9, 12002, .inl f9))]) [0, 1, 2, 3] (by decide) rfl
  have hKc := hK.sub (tys' := [(c7, .int), (c9, .int)]) [0, 1] rfl
  have hFc := va_free (wc := [(h0, .inr (13, fs)), (qh, .inr (12, fsH)), (q7, .inl (c7, 12002, .inl f7)), (q9, .inl (c9, 12002, .inl f9))]) hD hS hA [0, 1, 2, 3] rfl
  refine va_calli (va_runV (As := []) (rest := []) ⟨hx, hb, hml, hown, hts⟩ (c_M_look l dC dI h0 H.size fs fsH qh q7 q9 c7 c9 f7 f9) (cwV 0 hts (gV (y := yX13_look) _ 176 177 178 149 173 rfl rfl rfl rfl rfl) rfl rfl rfl (by decide +kernel) ⟨Nat.le_of_ble_eq_true rfl, Nat.le_of_ble_eq_true rfl⟩) ⟨fun a U g mk q => by obtain ⟨q0, q1, qJ, q7, q9, qP, qK, qD⟩ := q; exact ⟨q0, q1, qJ, q7, q9, qP, va_K.moved (u := U) (U := U.calling g mk a) (Vm.Alike.refl U.vm) qK, qD⟩, va_recv hKc hPc (ci := 13) (q0 := 0) rfl rfl, fun U hU hW => ⟨rfl, by rw [hU], kJ_sub hJ (by simp), h7, h9, by rw [hU]; exact hPc, va_K.moved hW.alike hKc, hDc.weaken (fun _ _ _ _ => trivial)⟩⟩ rfl rfl hl.1 rfl (lv_room (Nat.le_of_ble_eq_true rfl)) dX13_isAt_1 ⟨Nat.le_of_ble_eq_true rfl, Nat.le_of_ble_eq_true rfl⟩) hS (fun q _ h => hFc q h) hFc (fun r u t H1 locs ht hvm hw hB hz1 hk1 hS => ?_)
  obtain ⟨hP1, hK1, hD1⟩ := hB
  rw [ht] at hP1
  have hK1 := va_K.moved hvm.symm hK1
  obtain ⟨hP, hD⟩ := va_join (wr := []) (w1 := [(h0, .inr (13, fs)), (qh, .inr (12, fsH)), (q7, .inl (c7, 12002, .inl f7)), (q9, .inl (c9, 12002, .inl f9))]) hP hD [0, 1, 2, 3] [] rfl rfl (by decide) (by decide) hk1 hFc hP1 hD1
  have hK := (hK.sub (tys' := []) [] rfl).app hK1
  clear hPc hDc hKc hFc hP1 hK1 hD1 hk1 hz1
  generalize H1 = H at hP hS ⊢
  have hP : va_P (dC, dI) vwCl [(h0, .inr (13, fs)), (qh, .inr (12, fsH)), (q7, .inl (c7, 12002, .inl f7)), (q9, .inl (c9, 12002, .inl f9))] H := hP
  have hD : va_D A [(h0, .inr (13, fs)), (qh, .inr (12, fsH)), (q7, .inl (c7, 12002, .inl f7)), (q9, .inl (c9, 12002, .inl f9))] := hD
  have hK : va_K (dC, dI) vwCl [(c7, .int), (c9, .int)] s := hK
  subst hw
  refine lv_bipush (v := 75) hx hb dX13_isAt_4 (by decide) ?_
  refine lv_icmp_eq (tgt := 28) hx hb dX13_isAt_6 (by decide) (fun _ => ?_) (fun h => absurd h (by decide))
  refine lv_iconst (v := 0) hx hb dX13_isAt_28 (by decide) ?_
  exact W.zret (v := 0) hx hb hr (by decide) (fun t ht hW => ⟨⟨0, (), rfl, rfl, by rw [ht]; exact hP, va_K.moved hW.alike hK, hD⟩, hS.F ht⟩) hS.2.2 dX13_isAt_29
set_option maxHeartbeats 4000000 in
set_option maxRecDepth 100000 in
/-- a fault of the text is noted -/
theorem c_M_stop (l : Launch) (dC : Nat → ClassId) (dI : Nat → Nat → Nat) (h0 sz : Nat) (fs fsH : List Value) (qh q7 q9 : Nat) (c7 c9 : ClassId) (f7 f9 : Nat → Int32) (a1 : Int32) : Met l yX13_stop (.code yX13_stop cX13_stop 3 (some (.object "MeetingHouseModel$Halt")) :: wP) ({ frames := 0, cells := 0, slots := 0, locals := 0 }) (va_Pc [.ref h0, .int a1] (fun U => U.heap.size = sz ∧ kJ 180 [(0, .ref qh), (7, .ref q7), (9, .ref q9), (35, .int 0)] fs ∧ f7 0 = 75 ∧ f9 0 = 1 ∧ va_P (dC, dI) vwCl [(h0, .inr (13, fs)), (qh, .inr (12, fsH)), (q7, .inl (c7, 12002, .inl f7)), (q9, .inl (c9, 12002, .inl f9))] U.heap ∧ va_K (dC, dI) vwCl [(c7, .int), (c9, .int)] U ∧ va_D (fun _ => True) [(h0, .inr (13, fs)), (qh, .inr (12, fsH)), (q7, .inl (c7, 12002, .inl f7)), (q9, .inl (c9, 12002, .inl f9))])) (va_Qr (fun u : List Value => kJ 180 [(37, .int 1), (36, .int a1)] u) (fun (u : List Value) (ra : Nat) (t : State) => ra = qh ∧ va_P (dC, dI) vwCl [(h0, .inr (13, u)), (qh, .inr (12, fsH)), (q7, .inl (c7, 12002, .inl f7)), (q9, .inl (c9, 12002, .inl f9))] t.heap ∧ va_K (dC, dI) vwCl [(c7, .int), (c9, .int)] t ∧ va_D (va_A [(h0, .inr (13, fs)), (qh, .inr (12, fsH)), (q7, .inl (c7, 12002, .inl f7)), (q9, .inl (c9, 12002, .inl f9))] sz) [(h0, .inr (13, u)), (qh, .inr (12, fsH)), (q7, .inl (c7, 12002, .inl f7)), (q9, .inl (c9, 12002, .inl f9))]) (va_A [(h0, .inr (13, fs)), (qh, .inr (12, fsH)), (q7, .inl (c7, 12002, .inl f7)), (q9, .inl (c9, 12002, .inl f9))] sz)) 0 0 (va_A [(h0, .inr (13, fs)), (qh, .inr (12, fsH)), (q7, .inl (c7, 12002, .inl f7)), (q9, .inl (c9, 12002, .inl f9))] sz) := by
  refine Met.ofW (cc := cX13_stop) (maxL := 3) (ret := (some (.object "MeetingHouseModel$Halt"))) (by decide) rfl ?_
  intro p e s m args below meth c s₁ B hml hv
  obtain ⟨rfl, hsz, hJ, h7, h9, hP, hK, hD0⟩ := hv
  have hx := B.exec
  have hb := B.bytes
  have hr := B.returns
  have hts := atoms_spec (ws := .code yX13_stop cX13_stop 3 (some (.object "MeetingHouseModel$Halt")) :: wP) B.pre
  have hown : s.vm.findClass RX13 = some m.cls := findClass_of_methodNamed B.named
  subst hsz
  have hD := hD0.self (sz := s.heap.size)
  generalize hAe : va_A [(h0, .inr (13, fs)), (qh, .inr (12, fsH)), (q7, .inl (c7, 12002, .inl f7)), (q9, .inl (c9, 12002, .inl f9))] s.heap.size = A at hD ⊢
  have hA : ∀ q : Nat, s.heap.size ≤ q → A q := fun q h => by rw [← hAe]; exact Or.inr h
  have hS : va_S A s.heap s.heap [] := va_S.rf
  have hl := lv_entry ([.ref h0, .int a1]) (n := 3) (Nat.le_of_ble_eq_true rfl)
  rw [lg_entry_eq]
  generalize (lg_sl ([.ref h0, .int a1]) ++ List.replicate (3 - (lg_sl ([.ref h0, .int a1])).length) Slot.unset).toArray = ls at hl ⊢
  obtain ⟨H, hHe⟩ : ∃ H, H = s.heap := ⟨_, rfl⟩
  rw [← hHe] at hP ⊢
  have hS : va_S A s.heap H [] := by rw [hHe]; exact hS
  have hl : lv_has ls 3 [(0, .ref h0), (1, .int a1)] := hl
  refine lv_aload_n hx hb dX13_stop_0 rfl (lv_at hl 0 rfl) ?_
  refine va_get (D := (dC, dI)) (ci := 13) (v := .ref q7) (C := RX13) (T := TX13) (N := 180) hx hb hts iX13 hown hK hP 0 rfl rfl 7 (by decide) (hts _ (bP 12 rfl)) (fun _ h9 => h9) (kJ_at hJ 1 rfl) dX13_stop_1 ?_
  refine lv_aload_n hx hb dX13_stop_4 rfl (lv_at hl 0 rfl) ?_
  refine va_get (D := (dC, dI)) (ci := 13) (v := .int 0) (C := RX13) (T := TX13) (N := 180) hx hb hts iX13 hown hK hP 0 rfl rfl 35 (by decide) (hts _ (bP 174 rfl)) (fun _ h9 => h9) (kJ_at hJ 3 rfl) dX13_stop_5 ?_
  refine va_iald hx hb hK hP 2 0 rfl rfl (by unfold vp_in; decide) dX13_stop_8 ?_
  refine k_i (v := 75) h7 ?_
  refine lv_bipush (v := 76) hx hb dX13_stop_9 (by decide) ?_
  refine lv_icmp_ne (tgt := 18) hx hb dX13_stop_11 (by decide) (fun _ => ?_) (fun h => absurd h (by decide))
  refine lv_iconst (v := 0) hx hb dX13_stop_18 (by decide) ?_
  refine lv_istore_n (lv' := [(2, .int 0), (0, .ref h0), (1, .int a1)]) hx hb dX13_stop_19 rfl hl (by decide) rfl (fun ls hl => ?_)
  refine lv_aload_n hx hb dX13_stop_20 rfl (lv_at hl 1 rfl) ?_
  refine lv_iload_n hx hb dX13_stop_21 rfl (lv_at hl 0 rfl) ?_
  refine lv_if_eq (tgt := 29) hx hb dX13_stop_22 (by decide) (fun _ => ?_) (fun h => absurd h (by decide))
  refine lv_iload_n hx hb dX13_stop_29 rfl (lv_at hl 2 rfl) ?_
  refine kq_put [(36, .int a1), (0, .ref qh), (7, .ref q7), (9, .ref q9), (35, .int 0)] hts iX13 tyX13 tyX13_ok nmX13 hx hb hown hK hP hD hS 0 rfl rfl hJ 36 (by decide) (by decide) (hts _ (bP 180 rfl)) rfl (ty := .int) (by decide +kernel) (v := .int a1) rfl rfl dX13_stop_30 (fun f h => kJ_put h _ _ (by decide)) (fun H locs fs hJ hP hD hS => ?_)
  have hP : va_P (dC, dI) vwCl [(h0, .inr (13, fs)), (qh, .inr (12, fsH)), (q7, .inl (c7, 12002, .inl f7)), (q9, .inl (c9, 12002, .inl f9))] H := hP
  have hD : va_D A [(h0, .inr (13, fs)), (qh, .inr (12, fsH)), (q7, .inl (c7, 12002, .inl f7)), (q9, .inl (c9, 12002, .inl f9))] := hD
  refine lv_aload_n hx hb dX13_stop_33 rfl (lv_at hl 1 rfl) ?_
  refine lv_aload_n hx hb dX13_stop_34 rfl (lv_at hl 1 rfl) ?_
  refine va_get (D := (dC, dI)) (ci := 13) (v := .ref q9) (C := RX13) (T := TX13) (N := 180) hx hb hts iX13 hown hK hP 0 rfl rfl 9 (by decide) (hts _ (bP 14 rfl)) (fun _ h9 => h9) (kJ_at hJ 3 rfl) dX13_stop_35 ?_
  refine lv_aload_n hx hb dX13_stop_38 rfl (lv_at hl 1 rfl) ?_
  refine va_get (D := (dC, dI)) (ci := 13) (v := .int 0) (C := RX13) (T := TX13) (N := 180) hx hb hts iX13 hown hK hP 0 rfl rfl 35 (by decide) (hts _ (bP 174 rfl)) (fun _ h9 => h9) (kJ_at hJ 4 rfl) dX13_stop_39 ?_
  refine va_iald hx hb hK hP 3 1 rfl rfl (by unfold vp_in; decide) dX13_stop_42 ?_
  refine k_i (v := 1) h9 ?_
  refine kq_put [(37, .int 1), (36, .int a1), (0, .ref qh), (7, .ref q7), (9, .ref q9), (35, .int 0)] hts iX13 tyX13 tyX13_ok nmX13 hx hb hown hK hP hD hS 0 rfl rfl hJ 37 (by decide) (by decide) (hts _ (bP 181 rfl)) rfl (ty := .int) (by decide +kernel) (v := .int 1) rfl rfl dX13_stop_43 (fun f h => kJ_put h _ _ (by decide)) (fun H locs fs hJ hP hD hS => ?_)
  have hP : va_P (dC, dI) vwCl [(h0, .inr (13, fs)), (qh, .inr (12, fsH)), (q7, .inl (c7, 12002, .inl f7)), (q9, .inl (c9, 12002, .inl f9))] H := hP
  have hD : va_D A [(h0, .inr (13, fs)), (qh, .inr (12, fsH)), (q7, .inl (c7, 12002, .inl f7)), (q9, .inl (c9, 12002, .inl f9))] := hD
  refine lv_aload_n hx hb dX13_stop_46 rfl (lv_at hl 1 rfl) ?_
  refine va_get (D := (dC, dI)) (ci := 13) (v := .ref qh) (C := RX13) (T := TX13) (N := 180) hx hb hts iX13 hown hK hP 0 rfl rfl 0 (by decide) (hts _ (bP 6 rfl)) (fun _ h9 => h9) (kJ_at hJ 2 rfl) dX13_stop_47 ?_
  exact W.aret (v := .ref qh) hx hb hr (Or.inl ⟨_, rfl⟩) (Or.inr ⟨_, rfl⟩) (fun t ht hW => ⟨⟨fs, qh, rfl, kJ_sub hJ (by simp), rfl, by rw [ht]; exact hP, va_K.moved hW.alike hK, hD⟩, hS.F ht⟩) hS.2.2 dX13_stop_50
set_option maxHeartbeats 4000000 in
set_option maxRecDepth 100000 in
/-- lineAt(0, 0): the end can't stand there -/
theorem c_M_lineAt (l : Launch) (dC : Nat → ClassId) (dI : Nat → Nat → Nat) (h0 sz : Nat) (fs fsH : List Value) (qh q7 q9 : Nat) (c7 c9 : ClassId) (f7 f9 : Nat → Int32) : vx_Met l yX13_lineAt (.code yX13_lineAt cX13_lineAt 3 none :: wP) ({ frames := 2, cells := 0, slots := 0, locals := 42 }) (va_Pc [.ref h0, .int 0, .int 0] (fun U => U.heap.size = sz ∧ kJ 180 [(0, .ref qh), (7, .ref q7), (9, .ref q9), (35, .int 0)] fs ∧ f7 0 = 75 ∧ f9 0 = 1 ∧ va_P (dC, dI) vwCl [(h0, .inr (13, fs)), (qh, .inr (12, fsH)), (q7, .inl (c7, 12002, .inl f7)), (q9, .inl (c9, 12002, .inl f9))] U.heap ∧ va_K (dC, dI) vwCl [(c7, .int), (c9, .int)] U ∧ va_D (fun _ => True) [(h0, .inr (13, fs)), (qh, .inr (12, fsH)), (q7, .inl (c7, 12002, .inl f7)), (q9, .inl (c9, 12002, .inl f9))])) (va_Qv (fun _ : Unit => False) (fun (_ : Unit) (_ : State) => True) (va_A [(h0, .inr (13, fs)), (qh, .inr (12, fsH)), (q7, .inl (c7, 12002, .inl f7)), (q9, .inl (c9, 12002, .inl f9))] sz)) (vx_X (fun u : List Value => kJ 180 [(37, .int 1), (36, .int 2)] u) (fun (E : String) (u : List Value) (t : State) => E = RX12 ∧ va_P (dC, dI) vwCl [(h0, .inr (13, u)), (qh, .inr (12, fsH)), (q7, .inl (c7, 12002, .inl f7)), (q9, .inl (c9, 12002, .inl f9))] t.heap ∧ va_K (dC, dI) vwCl [(c7, .int), (c9, .int)] t ∧ va_D (va_A [(h0, .inr (13, fs)), (qh, .inr (12, fsH)), (q7, .inl (c7, 12002, .inl f7)), (q9, .inl (c9, 12002, .inl f9))] sz) [(h0, .inr (13, u)), (qh, .inr (12, fsH)), (q7, .inl (c7, 12002, .inl f7)), (q9, .inl (c9, 12002, .inl f9))]) (va_A [(h0, .inr (13, fs)), (qh, .inr (12, fsH)), (q7, .inl (c7, 12002, .inl f7)), (q9, .inl (c9, 12002, .inl f9))] sz)) 0 0 (va_A [(h0, .inr (13, fs)), (qh, .inr (12, fsH)), (q7, .inl (c7, 12002, .inl f7)), (q9, .inl (c9, 12002, .inl f9))] sz) := by
  refine vx_ofW (cc := cX13_lineAt) (maxL := 3) (ret := none) (by decide) rfl ?_
  intro p e s m args below meth c s₁ B hml hnt hv
  obtain ⟨rfl, hsz, hJ, h7, h9, hP, hK, hD0⟩ := hv
  have hx := B.exec
  have hb := B.bytes
  have hr := B.returns
  have hts := atoms_spec (ws := .code yX13_lineAt cX13_lineAt 3 none :: wP) B.pre
  have hown : s.vm.findClass RX13 = some m.cls := findClass_of_methodNamed B.named
  subst hsz
  have hD := hD0.self (sz := s.heap.size)
  generalize hAe : va_A [(h0, .inr (13, fs)), (qh, .inr (12, fsH)), (q7, .inl (c7, 12002, .inl f7)), (q9, .inl (c9, 12002, .inl f9))] s.heap.size = A at hD ⊢
  have hA : ∀ q : Nat, s.heap.size ≤ q → A q := fun q h => by rw [← hAe]; exact Or.inr h
  have hS : va_S A s.heap s.heap [] := va_S.rf
  have hl := lv_entry ([.ref h0, .int 0, .int 0]) (n := 3) (Nat.le_of_ble_eq_true rfl)
  rw [lg_entry_eq]
  generalize (lg_sl ([.ref h0, .int 0, .int 0]) ++ List.replicate (3 - (lg_sl ([.ref h0, .int 0, .int 0])).length) Slot.unset).toArray = ls at hl ⊢
  obtain ⟨H, hHe⟩ : ∃ H, H = s.heap := ⟨_, rfl⟩
  rw [← hHe] at hP ⊢
  have hS : va_S A s.heap H [] := by rw [hHe]; exact hS
  have hl : lv_has ls 3 [(0, .ref h0), (1, .int 0), (2, .int 0)] := hl
  refine lv_aload_n hx hb dX13_lineAt_0 rfl (lv_at hl 0 rfl) ?_
  refine lv_iload_n hx hb dX13_lineAt_1 rfl (lv_at hl 1 rfl) ?_
  have hPc := hP.sub (ws' := [(h0, .inr (13, fs)), (qh, .inr (12, fsH)), (q7, .inl (c7, 12002, .inl f7)), (q9, .inl (c9, 12002, .inl f9))]) [0, 1, 2, 3] rfl
  have hDc := hD.sub (ws' := [(h0, .inr (13, fs)), (qh, .inr (12, fsH)), (q7, .inl (c7, 12002, .inl f7)), (q9, .inl (c9, 12002, .inl f9))]) [0, 1, 2, 3] (by decide) rfl
  have hKc := hK.sub (tys' := [(c7, .int), (c9, .int)]) [0, 1] rfl
  have hFc := va_free (wc := [(h0, .inr (13, fs)), (qh, .inr (12, fsH)), (q7, .inl (c7, 12002, .inl f7)), (q9, .inl (c9, 12002, .inl f9))]) hD hS hA [0, 1, 2, 3] rfl
  refine va_calli (va_runV (As := [.int 0]) (rest := []) ⟨hx, hb, hml, hown, hts⟩ (c_M_isAt l dC dI h0 H.size fs fsH qh q7 q9 c7 c9 f7 f9 0) (cwV 1 hts (gV (y := yX13_isAt) _ 183 184 185 149 175 rfl rfl rfl rfl rfl) rfl rfl rfl (by decide +kernel) ⟨Nat.le_of_ble_eq_true rfl, Nat.le_of_ble_eq_true rfl⟩) ⟨fun a U g mk q => by obtain ⟨q0, q1, qJ, q7, q9, qP, qK, qD⟩ := q; exact ⟨q0, q1, qJ, q7, q9, qP, va_K.moved (u := U) (U := U.calling g mk a) (Vm.Alike.refl U.vm) qK, qD⟩, va_recv hKc hPc (ci := 13) (q0 := 0) rfl rfl, fun U hU hW => ⟨rfl, by rw [hU], kJ_sub hJ (by simp), h7, h9, by rw [hU]; exact hPc, va_K.moved hW.alike hKc, hDc.weaken (fun _ _ _ _ => trivial)⟩⟩ rfl rfl hl.1 rfl (lv_room (Nat.le_of_ble_eq_true rfl)) dX13_lineAt_2 ⟨Nat.le_of_ble_eq_true rfl, Nat.le_of_ble_eq_true rfl⟩) hS (fun q _ h => hFc q h) hFc (fun r u t H1 locs ht hvm hw hB hz1 hk1 hS => ?_)
  obtain ⟨hP1, hK1, hD1⟩ := hB
  rw [ht] at hP1
  have hK1 := va_K.moved hvm.symm hK1
  obtain ⟨hP, hD⟩ := va_join (wr := []) (w1 := [(h0, .inr (13, fs)), (qh, .inr (12, fsH)), (q7, .inl (c7, 12002, .inl f7)), (q9, .inl (c9, 12002, .inl f9))]) hP hD [0, 1, 2, 3] [] rfl rfl (by decide) (by decide) hk1 hFc hP1 hD1
  have hK := (hK.sub (tys' := []) [] rfl).app hK1
  clear hPc hDc hKc hFc hP1 hK1 hD1 hk1 hz1
  generalize H1 = H at hP hS ⊢
  have hP : va_P (dC, dI) vwCl [(h0, .inr (13, fs)), (qh, .inr (12, fsH)), (q7, .inl (c7, 12002, .inl f7)), (q9, .inl (c9, 12002, .inl f9))] H := hP
  have hD : va_D A [(h0, .inr (13, fs)), (qh, .inr (12, fsH)), (q7, .inl (c7, 12002, .inl f7)), (q9, .inl (c9, 12002, .inl f9))] := hD
  have hK : va_K (dC, dI) vwCl [(c7, .int), (c9, .int)] s := hK
  subst hw
  refine lv_if_eq (tgt := 19) hx hb dX13_lineAt_5 (by decide) (fun _ => ?_) (fun h => absurd h (by decide))
  refine lv_aload_n hx hb dX13_lineAt_19 rfl (lv_at hl 0 rfl) ?_
  refine lv_iconst (v := 2) hx hb dX13_lineAt_20 (by decide) ?_
  have hPc := hP.sub (ws' := [(h0, .inr (13, fs)), (qh, .inr (12, fsH)), (q7, .inl (c7, 12002, .inl f7)), (q9, .inl (c9, 12002, .inl f9))]) [0, 1, 2, 3] rfl
  have hDc := hD.sub (ws' := [(h0, .inr (13, fs)), (qh, .inr (12, fsH)), (q7, .inl (c7, 12002, .inl f7)), (q9, .inl (c9, 12002, .inl f9))]) [0, 1, 2, 3] (by decide) rfl
  have hKc := hK.sub (tys' := [(c7, .int), (c9, .int)]) [0, 1] rfl
  have hFc := va_free (wc := [(h0, .inr (13, fs)), (qh, .inr (12, fsH)), (q7, .inl (c7, 12002, .inl f7)), (q9, .inl (c9, 12002, .inl f9))]) hD hS hA [0, 1, 2, 3] rfl
  refine va_callr (va_runV (As := [.int 2]) (rest := []) ⟨hx, hb, hml, hown, hts⟩ (c_M_stop l dC dI h0 H.size fs fsH qh q7 q9 c7 c9 f7 f9 2) (cwV 1 hts (gV (y := yX13_stop) _ 186 187 188 149 179 rfl rfl rfl rfl rfl) rfl rfl rfl (by decide +kernel) ⟨Nat.le_of_ble_eq_true rfl, Nat.le_of_ble_eq_true rfl⟩) ⟨fun a U g mk q => by obtain ⟨q0, q1, qJ, q7, q9, qP, qK, qD⟩ := q; exact ⟨q0, q1, qJ, q7, q9, qP, va_K.moved (u := U) (U := U.calling g mk a) (Vm.Alike.refl U.vm) qK, qD⟩, va_recv hKc hPc (ci := 13) (q0 := 0) rfl rfl, fun U hU hW => ⟨rfl, by rw [hU], kJ_sub hJ (by simp), h7, h9, by rw [hU]; exact hPc, va_K.moved hW.alike hKc, hDc.weaken (fun _ _ _ _ => trivial)⟩⟩ rfl rfl hl.1 rfl (lv_room (Nat.le_of_ble_eq_true rfl)) dX13_lineAt_21 ⟨Nat.le_of_ble_eq_true rfl, Nat.le_of_ble_eq_true rfl⟩) hS (fun q _ h => hFc q h) hFc (fun u ra t H1 locs ht hvm hw hB hz1 hk1 hS => ?_)
  obtain ⟨hra, hB⟩ := hB
  subst hra
  obtain ⟨fs, hfs⟩ : ∃ z, z = u := ⟨_, rfl⟩
  rw [← hfs] at hB hw
  clear hfs
  have hJ : kJ 180 [(37, .int 1), (36, .int 2)] fs := hw
  obtain ⟨hP1, hK1, hD1⟩ := hB
  rw [ht] at hP1
  have hK1 := va_K.moved hvm.symm hK1
  obtain ⟨hP, hD⟩ := va_join (wr := []) (w1 := [(h0, .inr (13, fs)), (ra, .inr (12, fsH)), (q7, .inl (c7, 12002, .inl f7)), (q9, .inl (c9, 12002, .inl f9))]) hP hD [0, 1, 2, 3] [] rfl rfl (by decide) (by decide) hk1 hFc hP1 hD1
  have hK := (hK.sub (tys' := []) [] rfl).app hK1
  clear hPc hDc hKc hFc hP1 hK1 hD1 hk1 hz1
  generalize H1 = H at hP hS ⊢
  have hP : va_P (dC, dI) vwCl [(h0, .inr (13, fs)), (ra, .inr (12, fsH)), (q7, .inl (c7, 12002, .inl f7)), (q9, .inl (c9, 12002, .inl f9))] H := hP
  have hD : va_D A [(h0, .inr (13, fs)), (ra, .inr (12, fsH)), (q7, .inl (c7, 12002, .inl f7)), (q9, .inl (c9, 12002, .inl f9))] := hD
  have hK : va_K (dC, dI) vwCl [(c7, .int), (c9, .int)] s := hK
  refine k_athrow hx hb dX13_lineAt_24 ?_
  obtain ⟨r9, hr9, ce, g1, g2, g3, -⟩ := hP 1 _ rfl
  exact vx_out (fun x hx => (hnt x hx).elim) B.notSynchronized g1 g3 (by rw [g2]; exact (hK.1 12 _ rfl).2.1) (fun t ht hal => ⟨fs, hJ, ⟨rfl, by rw [ht]; exact hP, va_K.moved hal hK, hD⟩, hS.F ht⟩) hS.2.2 (Nat.le_refl _) (Nat.le_refl _)
set_option maxHeartbeats 4000000 in
set_option maxRecDepth 100000 in
/-- process(0): the end can't stand there -/
theorem c_M_process (l : Launch) (dC : Nat → ClassId) (dI : Nat → Nat → Nat) (h0 sz : Nat) (fs fsH : List Value) (qh q7 q9 : Nat) (c7 c9 : ClassId) (f7 f9 : Nat → Int32) : vx_Met l yX13_process (.code yX13_process cX13_process 5 (some .int) :: wP) ({ frames := 3, cells := 0, slots := 0, locals := 64 }) (va_Pc [.ref h0, .int 0] (fun U => U.heap.size = sz ∧ kJ 180 [(0, .ref qh), (7, .ref q7), (9, .ref q9), (35, .int 0)] fs ∧ f7 0 = 75 ∧ f9 0 = 1 ∧ va_P (dC, dI) vwCl [(h0, .inr (13, fs)), (qh, .inr (12, fsH)), (q7, .inl (c7, 12002, .inl f7)), (q9, .inl (c9, 12002, .inl f9))] U.heap ∧ va_K (dC, dI) vwCl [(c7, .int), (c9, .int)] U ∧ va_D (fun _ => True) [(h0, .inr (13, fs)), (qh, .inr (12, fsH)), (q7, .inl (c7, 12002, .inl f7)), (q9, .inl (c9, 12002, .inl f9))])) (va_Qi (fun (_ : Int32) (_ : Unit) => False) (fun (_ : Unit) (_ : State) => True) (va_A [(h0, .inr (13, fs)), (qh, .inr (12, fsH)), (q7, .inl (c7, 12002, .inl f7)), (q9, .inl (c9, 12002, .inl f9))] sz)) (vx_X (fun u : List Value => kJ 180 [(37, .int 1), (36, .int 2)] u) (fun (E : String) (u : List Value) (t : State) => E = RX12 ∧ va_P (dC, dI) vwCl [(h0, .inr (13, u)), (qh, .inr (12, fsH)), (q7, .inl (c7, 12002, .inl f7)), (q9, .inl (c9, 12002, .inl f9))] t.heap ∧ va_K (dC, dI) vwCl [(c7, .int), (c9, .int)] t ∧ va_D (va_A [(h0, .inr (13, fs)), (qh, .inr (12, fsH)), (q7, .inl (c7, 12002, .inl f7)), (q9, .inl (c9, 12002, .inl f9))] sz) [(h0, .inr (13, u)), (qh, .inr (12, fsH)), (q7, .inl (c7, 12002, .inl f7)), (q9, .inl (c9, 12002, .inl f9))]) (va_A [(h0, .inr (13, fs)), (qh, .inr (12, fsH)), (q7, .inl (c7, 12002, .inl f7)), (q9, .inl (c9, 12002, .inl f9))] sz)) 0 0 (va_A [(h0, .inr (13, fs)), (qh, .inr (12, fsH)), (q7, .inl (c7, 12002, .inl f7)), (q9, .inl (c9, 12002, .inl f9))] sz) := by
  refine vx_ofW (cc := cX13_process) (maxL := 5) (ret := (some .int)) (by decide) rfl ?_
  intro p e s m args below meth c s₁ B hml hnt hv
  obtain ⟨rfl, hsz, hJ, h7, h9, hP, hK, hD0⟩ := hv
  have hx := B.exec
  have hb := B.bytes
  have hr := B.returns
  have hts := atoms_spec (ws := .code yX13_process cX13_process 5 (some .int) :: wP) B.pre
  have hown : s.vm.findClass RX13 = some m.cls := findClass_of_methodNamed B.named
  subst hsz
  have hD := hD0.self (sz := s.heap.size)
  generalize hAe : va_A [(h0, .inr (13, fs)), (qh, .inr (12, fsH)), (q7, .inl (c7, 12002, .inl f7)), (q9, .inl (c9, 12002, .inl f9))] s.heap.size = A at hD ⊢
  have hA : ∀ q : Nat, s.heap.size ≤ q → A q := fun q h => by rw [← hAe]; exact Or.inr h
  have hS : va_S A s.heap s.heap [] := va_S.rf
  have hl := lv_entry ([.ref h0, .int 0]) (n := 5) (Nat.le_of_ble_eq_true rfl)
  rw [lg_entry_eq]
  generalize (lg_sl ([.ref h0, .int 0]) ++ List.replicate (5 - (lg_sl ([.ref h0, .int 0])).length) Slot.unset).toArray = ls at hl ⊢
  obtain ⟨H, hHe⟩ : ∃ H, H = s.heap := ⟨_, rfl⟩
  rw [← hHe] at hP ⊢
  have hS : va_S A s.heap H [] := by rw [hHe]; exact hS
  have hl : lv_has ls 5 [(0, .ref h0), (1, .int 0)] := hl
  refine lv_aload_n hx hb dX13_process_0 rfl (lv_at hl 0 rfl) ?_
  refine lv_iload_n hx hb dX13_process_1 rfl (lv_at hl 1 rfl) ?_
  refine lv_iconst (v := 0) hx hb dX13_process_2 (by decide) ?_
  have hPc := hP.sub (ws' := [(h0, .inr (13, fs)), (qh, .inr (12, fsH)), (q7, .inl (c7, 12002, .inl f7)), (q9, .inl (c9, 12002, .inl f9))]) [0, 1, 2, 3] rfl
  have hDc := hD.sub (ws' := [(h0, .inr (13, fs)), (qh, .inr (12, fsH)), (q7, .inl (c7, 12002, .inl f7)), (q9, .inl (c9, 12002, .inl f9))]) [0, 1, 2, 3] (by decide) rfl
  have hKc := hK.sub (tys' := [(c7, .int), (c9, .int)]) [0, 1] rfl
  have hFc := va_free (wc := [(h0, .inr (13, fs)), (qh, .inr (12, fsH)), (q7, .inl (c7, 12002, .inl f7)), (q9, .inl (c9, 12002, .inl f9))]) hD hS hA [0, 1, 2, 3] rfl
  refine vx_callv (vx_runV (As := [.int 0, .int 0]) (rest := []) ⟨hx, hb, hml, hown, hts⟩ (c_M_lineAt l dC dI h0 H.size fs fsH qh q7 q9 c7 c9 f7 f9) (cwV 2 hts (gV (y := yX13_lineAt) _ 190 191 192 149 182 rfl rfl rfl rfl rfl) rfl rfl rfl (by decide +kernel) ⟨Nat.le_of_ble_eq_true rfl, Nat.le_of_ble_eq_true rfl⟩) ⟨fun a U g mk q => by obtain ⟨q0, q1, qJ, q7, q9, qP, qK, qD⟩ := q; exact ⟨q0, q1, qJ, q7, q9, qP, va_K.moved (u := U) (U := U.calling g mk a) (Vm.Alike.refl U.vm) qK, qD⟩, va_recv hKc hPc (ci := 13) (q0 := 0) rfl rfl, fun U hU hW => ⟨rfl, by rw [hU], kJ_sub hJ (by simp), h7, h9, by rw [hU]; exact hPc, va_K.moved hW.alike hKc, hDc.weaken (fun _ _ _ _ => trivial)⟩⟩ rfl rfl hl.1 rfl (lv_room (Nat.le_of_ble_eq_true rfl)) dX13_process_3 ⟨Nat.le_of_ble_eq_true rfl, Nat.le_of_ble_eq_true rfl⟩) hS (fun q _ h => hFc q h) hFc (fun q _ h => hFc q h) (fun E ce q9_ u t H1 locs ht hvm hw hB hz1 hk1 hS hcell hcv hcl => ?_) (fun u t H1 locs ht hvm hw hB hz1 hk1 hS => hw.elim)
  obtain ⟨hE, hB⟩ := hB
  subst hE
  obtain ⟨fs, hfs⟩ : ∃ z, z = u := ⟨_, rfl⟩
  rw [← hfs] at hB hw
  clear hfs
  have hJ : kJ 180 [(37, .int 1), (36, .int 2)] fs := hw
  obtain ⟨hP1, hK1, hD1⟩ := hB
  rw [ht] at hP1
  have hK1 := va_K.moved hvm.symm hK1
  obtain ⟨hP, hD⟩ := va_join (wr := []) (w1 := [(h0, .inr (13, fs)), (qh, .inr (12, fsH)), (q7, .inl (c7, 12002, .inl f7)), (q9, .inl (c9, 12002, .inl f9))]) hP hD [0, 1, 2, 3] [] rfl rfl (by decide) (by decide) hk1 hFc hP1 hD1
  generalize H1 = H at hP hS hcell ⊢
  have hP : va_P (dC, dI) vwCl [(h0, .inr (13, fs)), (qh, .inr (12, fsH)), (q7, .inl (c7, 12002, .inl f7)), (q9, .inl (c9, 12002, .inl f9))] H := hP
  have hD : va_D A [(h0, .inr (13, fs)), (qh, .inr (12, fsH)), (q7, .inl (c7, 12002, .inl f7)), (q9, .inl (c9, 12002, .inl f9))] := hD
  have hK : va_K (dC, dI) vwCl [(c7, .int), (c9, .int)] s := hK1
  exact vx_out (fun x hx => (hnt x hx).elim) B.notSynchronized hcell hcv hcl (fun t ht hal => ⟨fs, hJ, ⟨rfl, by rw [ht]; exact hP, va_K.moved hal hK, hD⟩, hS.F ht⟩) hS.2.2 (Nat.le_refl _) (Nat.le_refl _)
set_option maxHeartbeats 4000000 in
set_option maxRecDepth 100000 in
/-- parses() on the end alone: no -/
theorem c_M_parses (l : Launch) (dC : Nat → ClassId) (dI : Nat → Nat → Nat) (h0 sz : Nat) (fs fsH : List Value) (qh q7 q9 : Nat) (c7 c9 : ClassId) (f7 f9 : Nat → Int32) : vx_Met l yX13_parses (.codeWith yX13_parses cX13_parses 2 (some .boolean) [(20, 45, 46, 7)] :: wP) ({ frames := 4, cells := 0, slots := 0, locals := 88 }) (va_Pc [.ref h0] (fun U => U.heap.size = sz ∧ kJ 180 [(0, .ref qh), (7, .ref q7), (9, .ref q9)] fs ∧ f7 0 = 75 ∧ f9 0 = 1 ∧ va_Nw (.castable RX12 RX12) U ∧ va_P (dC, dI) vwCl [(h0, .inr (13, fs)), (qh, .inr (12, fsH)), (q7, .inl (c7, 12002, .inl f7)), (q9, .inl (c9, 12002, .inl f9))] U.heap ∧ va_K (dC, dI) vwCl [(c7, .int), (c9, .int)] U ∧ va_D (fun _ => True) [(h0, .inr (13, fs)), (qh, .inr (12, fsH)), (q7, .inl (c7, 12002, .inl f7)), (q9, .inl (c9, 12002, .inl f9))])) (va_Qi (fun (r : Int32) (u : List Value) => r = 0 ∧ kJ 180 [(37, .int 1), (36, .int 2)] u) (fun (u : List Value) (t : State) => va_P (dC, dI) vwCl [(h0, .inr (13, u)), (qh, .inr (12, fsH)), (q7, .inl (c7, 12002, .inl f7)), (q9, .inl (c9, 12002, .inl f9))] t.heap ∧ va_K (dC, dI) vwCl [(c7, .int), (c9, .int)] t ∧ va_D (va_A [(h0, .inr (13, fs)), (qh, .inr (12, fsH)), (q7, .inl (c7, 12002, .inl f7)), (q9, .inl (c9, 12002, .inl f9))] sz) [(h0, .inr (13, u)), (qh, .inr (12, fsH)), (q7, .inl (c7, 12002, .inl f7)), (q9, .inl (c9, 12002, .inl f9))]) (va_A [(h0, .inr (13, fs)), (qh, .inr (12, fsH)), (q7, .inl (c7, 12002, .inl f7)), (q9, .inl (c9, 12002, .inl f9))] sz)) (vx_X (fun _ : Unit => False) (fun (_ : String) (_ : Unit) (_ : State) => True) (va_A [(h0, .inr (13, fs)), (qh, .inr (12, fsH)), (q7, .inl (c7, 12002, .inl f7)), (q9, .inl (c9, 12002, .inl f9))] sz)) 0 0 (va_A [(h0, .inr (13, fs)), (qh, .inr (12, fsH)), (q7, .inl (c7, 12002, .inl f7)), (q9, .inl (c9, 12002, .inl f9))] sz) := by
  refine vx_ofWH (cc := cX13_parses) (maxL := 2) (ret := (some .boolean)) (hh := [(20, 45, 46, 7)]) (by decide) rfl ?_
  intro p e s m args below meth c s₁ B hml hv
  obtain ⟨rfl, hsz, hJ, h7, h9, hca, hP, hK, hD0⟩ := hv
  have hx := B.exec
  have hb := B.bytes
  have hr := B.returns
  have hts := atoms_spec (ws := .codeWith yX13_parses cX13_parses 2 (some .boolean) [(20, 45, 46, 7)] :: wP) B.pre
  have hown : s.vm.findClass RX13 = some m.cls := findClass_of_methodNamed B.named
  subst hsz
  have hD := hD0.self (sz := s.heap.size)
  generalize hAe : va_A [(h0, .inr (13, fs)), (qh, .inr (12, fsH)), (q7, .inl (c7, 12002, .inl f7)), (q9, .inl (c9, 12002, .inl f9))] s.heap.size = A at hD ⊢
  have hA : ∀ q : Nat, s.heap.size ≤ q → A q := fun q h => by rw [← hAe]; exact Or.inr h
  have hS : va_S A s.heap s.heap [] := va_S.rf
  have hl := lv_entry ([.ref h0]) (n := 2) (Nat.le_of_ble_eq_true rfl)
  rw [lg_entry_eq]
  generalize (lg_sl ([.ref h0]) ++ List.replicate (2 - (lg_sl ([.ref h0])).length) Slot.unset).toArray = ls at hl ⊢
  obtain ⟨H, hHe⟩ : ∃ H, H = s.heap := ⟨_, rfl⟩
  rw [← hHe] at hP ⊢
  have hS : va_S A s.heap H [] := by rw [hHe]; exact hS
  have hl : lv_has ls 2 [(0, .ref h0)] := hl
  have htab : c.exceptionTable.toList = tableOf [(20, 45, 46, 7)] := vx_table (x := yX13_parses) B (hts _ List.mem_cons_self)
  refine lv_aload_n hx hb dX13_parses_0 rfl (lv_at hl 0 rfl) ?_
  refine lv_iconst (v := 0) hx hb dX13_parses_1 (by decide) ?_
  refine kq_put [(25, .int 0), (0, .ref qh), (7, .ref q7), (9, .ref q9)] hts iX13 tyX13 tyX13_ok nmX13 hx hb hown hK hP hD hS 0 rfl rfl hJ 25 (by decide) (by decide) (hts _ (bP 194 rfl)) rfl (ty := .int) (by decide +kernel) (v := .int 0) rfl rfl dX13_parses_2 (fun f h => kJ_put h _ _ (by decide)) (fun H locs fs hJ hP hD hS => ?_)
  have hP : va_P (dC, dI) vwCl [(h0, .inr (13, fs)), (qh, .inr (12, fsH)), (q7, .inl (c7, 12002, .inl f7)), (q9, .inl (c9, 12002, .inl f9))] H := hP
  have hD : va_D A [(h0, .inr (13, fs)), (qh, .inr (12, fsH)), (q7, .inl (c7, 12002, .inl f7)), (q9, .inl (c9, 12002, .inl f9))] := hD
  refine lv_aload_n hx hb dX13_parses_5 rfl (lv_at hl 0 rfl) ?_
  refine lv_iconst (v := 0) hx hb dX13_parses_6 (by decide) ?_
  refine kq_put [(35, .int 0), (25, .int 0), (0, .ref qh), (7, .ref q7), (9, .ref q9)] hts iX13 tyX13 tyX13_ok nmX13 hx hb hown hK hP hD hS 0 rfl rfl hJ 35 (by decide) (by decide) (hts _ (bP 174 rfl)) rfl (ty := .int) (by decide +kernel) (v := .int 0) rfl rfl dX13_parses_7 (fun f h => kJ_put h _ _ (by decide)) (fun H locs fs hJ hP hD hS => ?_)
  have hP : va_P (dC, dI) vwCl [(h0, .inr (13, fs)), (qh, .inr (12, fsH)), (q7, .inl (c7, 12002, .inl f7)), (q9, .inl (c9, 12002, .inl f9))] H := hP
  have hD : va_D A [(h0, .inr (13, fs)), (qh, .inr (12, fsH)), (q7, .inl (c7, 12002, .inl f7)), (q9, .inl (c9, 12002, .inl f9))] := hD
  refine lv_aload_n hx hb dX13_parses_10 rfl (lv_at hl 0 rfl) ?_
  refine lv_iconst (v := 0) hx hb dX13_parses_11 (by decide) ?_
  refine kq_put [(38, .int 0), (35, .int 0), (25, .int 0), (0, .ref qh), (7, .ref q7), (9, .ref q9)] hts iX13 tyX13 tyX13_ok nmX13 hx hb hown hK hP hD hS 0 rfl rfl hJ 38 (by decide) (by decide) (hts _ (bP 195 rfl)) rfl (ty := .int) (by decide +kernel) (v := .int 0) rfl rfl dX13_parses_12 (fun f h => kJ_put h _ _ (by decide)) (fun H locs fs hJ hP hD hS => ?_)
  have hP : va_P (dC, dI) vwCl [(h0, .inr (13, fs)), (qh, .inr (12, fsH)), (q7, .inl (c7, 12002, .inl f7)), (q9, .inl (c9, 12002, .inl f9))] H := hP
  have hD : va_D A [(h0, .inr (13, fs)), (qh, .inr (12, fsH)), (q7, .inl (c7, 12002, .inl f7)), (q9, .inl (c9, 12002, .inl f9))] := hD
  refine lv_aload_n hx hb dX13_parses_15 rfl (lv_at hl 0 rfl) ?_
  refine lv_iconst (v := 0) hx hb dX13_parses_16 (by decide) ?_
  refine kq_put [(36, .int 0), (38, .int 0), (35, .int 0), (25, .int 0), (0, .ref qh), (7, .ref q7), (9, .ref q9)] hts iX13 tyX13 tyX13_ok nmX13 hx hb hown hK hP hD hS 0 rfl rfl hJ 36 (by decide) (by decide) (hts _ (bP 180 rfl)) rfl (ty := .int) (by decide +kernel) (v := .int 0) rfl rfl dX13_parses_17 (fun f h => kJ_put h _ _ (by decide)) (fun H locs fs hJ hP hD hS => ?_)
  have hP : va_P (dC, dI) vwCl [(h0, .inr (13, fs)), (qh, .inr (12, fsH)), (q7, .inl (c7, 12002, .inl f7)), (q9, .inl (c9, 12002, .inl f9))] H := hP
  have hD : va_D A [(h0, .inr (13, fs)), (qh, .inr (12, fsH)), (q7, .inl (c7, 12002, .inl f7)), (q9, .inl (c9, 12002, .inl f9))] := hD
  refine lv_aload_n hx hb dX13_parses_20 rfl (lv_at hl 0 rfl) ?_
  refine lv_aload_n hx hb dX13_parses_21 rfl (lv_at hl 0 rfl) ?_
  refine lv_iconst (v := 0) hx hb dX13_parses_22 (by decide) ?_
  have hPc := hP.sub (ws' := [(h0, .inr (13, fs)), (qh, .inr (12, fsH)), (q7, .inl (c7, 12002, .inl f7)), (q9, .inl (c9, 12002, .inl f9))]) [0, 1, 2, 3] rfl
  have hDc := hD.sub (ws' := [(h0, .inr (13, fs)), (qh, .inr (12, fsH)), (q7, .inl (c7, 12002, .inl f7)), (q9, .inl (c9, 12002, .inl f9))]) [0, 1, 2, 3] (by decide) rfl
  have hKc := hK.sub (tys' := [(c7, .int), (c9, .int)]) [0, 1] rfl
  have hFc := va_free (wc := [(h0, .inr (13, fs)), (qh, .inr (12, fsH)), (q7, .inl (c7, 12002, .inl f7)), (q9, .inl (c9, 12002, .inl f9))]) hD hS hA [0, 1, 2, 3] rfl
  refine vx_calli (vx_runV (As := [.int 0]) (rest := [.ref h0]) ⟨hx, hb, hml, hown, hts⟩ (c_M_process l dC dI h0 H.size fs fsH qh q7 q9 c7 c9 f7 f9) (cwV 1 hts (gV (y := yX13_process) _ 196 197 198 149 189 rfl rfl rfl rfl rfl) rfl rfl rfl (by decide +kernel) ⟨Nat.le_of_ble_eq_true rfl, Nat.le_of_ble_eq_true rfl⟩) ⟨fun a U g mk q => by obtain ⟨q0, q1, qJ, q7, q9, qP, qK, qD⟩ := q; exact ⟨q0, q1, qJ, q7, q9, qP, va_K.moved (u := U) (U := U.calling g mk a) (Vm.Alike.refl U.vm) qK, qD⟩, va_recv hKc hPc (ci := 13) (q0 := 0) rfl rfl, fun U hU hW => ⟨rfl, by rw [hU], kJ_sub hJ (by simp), h7, h9, by rw [hU]; exact hPc, va_K.moved hW.alike hKc, hDc.weaken (fun _ _ _ _ => trivial)⟩⟩ rfl rfl hl.1 rfl (lv_room (Nat.le_of_ble_eq_true rfl)) dX13_parses_23 ⟨Nat.le_of_ble_eq_true rfl, Nat.le_of_ble_eq_true rfl⟩) hS (fun q _ h => hFc q h) hFc (fun q _ h => hFc q h) (fun E ce q9_ u t H1 locs ht hvm hw hB hz1 hk1 hS hcell hcv hcl => ?_) (fun r u t H1 locs ht hvm hw hB hz1 hk1 hS => hw.elim)
  obtain ⟨hE, hB⟩ := hB
  subst hE
  obtain ⟨fs, hfs⟩ : ∃ z, z = u := ⟨_, rfl⟩
  rw [← hfs] at hB hw
  clear hfs
  have hJ : kJ 180 [(37, .int 1), (36, .int 2)] fs := hw
  obtain ⟨hP1, hK1, hD1⟩ := hB
  rw [ht] at hP1
  have hK1 := va_K.moved hvm.symm hK1
  obtain ⟨hP, hD⟩ := va_join (wr := []) (w1 := [(h0, .inr (13, fs)), (qh, .inr (12, fsH)), (q7, .inl (c7, 12002, .inl f7)), (q9, .inl (c9, 12002, .inl f9))]) hP hD [0, 1, 2, 3] [] rfl rfl (by decide) (by decide) hk1 hFc hP1 hD1
  generalize H1 = H at hP hS hcell ⊢
  have hP : va_P (dC, dI) vwCl [(h0, .inr (13, fs)), (qh, .inr (12, fsH)), (q7, .inl (c7, 12002, .inl f7)), (q9, .inl (c9, 12002, .inl f9))] H := hP
  have hD : va_D A [(h0, .inr (13, fs)), (qh, .inr (12, fsH)), (q7, .inl (c7, 12002, .inl f7)), (q9, .inl (c9, 12002, .inl f9))] := hD
  have hK : va_K (dC, dI) vwCl [(c7, .int), (c9, .int)] s := hK1
  refine k_catchA (own := RX13) (name := RX12) hown ⟨20, 45, 46, 7⟩ [] htab (by decide) (by decide) (hts _ (bP 3 rfl)) (va_Nw.use rfl hca) hcell hcv hcl ?_
  refine lv_astore_n (lv' := [(1, .ref q9_), (0, .ref h0)]) hx hb dX13_parses_46 rfl hl (by decide) rfl (fun ls hl => ?_)
  refine lv_iconst (v := 0) hx hb dX13_parses_47 (by decide) ?_
  refine vx_ret ?_
  exact W.zret (v := 0) hx hb hr (by decide) (fun t ht hW => ⟨⟨0, fs, rfl, ⟨rfl, hJ⟩, by rw [ht]; exact hP, va_K.moved hW.alike hK, hD⟩, hS.F ht⟩) hS.2.2 dX13_parses_48
set_option maxHeartbeats 4000000 in
set_option maxRecDepth 100000 in
/-- read() on an empty tape: fault 2 at line 1 -/
theorem c_M_read (l : Launch) (dC : Nat → ClassId) (dI : Nat → Nat → Nat) (h0 sz : Nat) (fs fsH : List Value) (qh : Nat) (q7 : Nat) (q8 : Nat) (q9 : Nat) (q10 : Nat) (c7 : ClassId) (c8 : ClassId) (c9 : ClassId) (c10 : ClassId) (f7 : Nat → Int32) (f8 : Nat → Int32) (f9 : Nat → Int32) (f10 : Nat → Int32) : Met l yX13_read (.code yX13_read cX13_read 1 (some .int) :: wP) ({ frames := 5, cells := 0, slots := 0, locals := 112 }) (va_Pc [.ref h0] (fun U => U.heap.size = sz ∧ kJ 180 [(0, .ref qh), (7, .ref q7), (8, .ref q8), (9, .ref q9), (10, .ref q10), (3, .int 0)] fs ∧ va_Nw (.castable RX12 RX12) U ∧ va_P (dC, dI) vwCl [(h0, .inr (13, fs)), (qh, .inr (12, fsH)), (q7, .inl (c7, 12002, .inl f7)), (q8, .inl (c8, 12002, .inl f8)), (q9, .inl (c9, 12002, .inl f9)), (q10, .inl (c10, 12002, .inl f10))] U.heap ∧ va_K (dC, dI) vwCl [(c7, .int), (c8, .int), (c9, .int), (c10, .int)] U ∧ va_D (fun _ => True) [(h0, .inr (13, fs)), (qh, .inr (12, fsH)), (q7, .inl (c7, 12002, .inl f7)), (q8, .inl (c8, 12002, .inl f8)), (q9, .inl (c9, 12002, .inl f9)), (q10, .inl (c10, 12002, .inl f10))])) (va_Qi (fun r (_ : Unit) => r = 18) (fun (_ : Unit) (_ : State) => True) (va_A [(h0, .inr (13, fs)), (qh, .inr (12, fsH)), (q7, .inl (c7, 12002, .inl f7)), (q8, .inl (c8, 12002, .inl f8)), (q9, .inl (c9, 12002, .inl f9)), (q10, .inl (c10, 12002, .inl f10))] sz)) 0 0 (va_A [(h0, .inr (13, fs)), (qh, .inr (12, fsH)), (q7, .inl (c7, 12002, .inl f7)), (q8, .inl (c8, 12002, .inl f8)), (q9, .inl (c9, 12002, .inl f9)), (q10, .inl (c10, 12002, .inl f10))] sz) := by
  refine Met.ofW (cc := cX13_read) (maxL := 1) (ret := (some .int)) (by decide) rfl ?_
  intro p e s m args below meth c s₁ B hml hv
  obtain ⟨rfl, hsz, hJ, hca, hP, hK, hD0⟩ := hv
  have hx := B.exec
  have hb := B.bytes
  have hr := B.returns
  have hts := atoms_spec (ws := .code yX13_read cX13_read 1 (some .int) :: wP) B.pre
  have hown : s.vm.findClass RX13 = some m.cls := findClass_of_methodNamed B.named
  subst hsz
  have hD := hD0.self (sz := s.heap.size)
  generalize hAe : va_A [(h0, .inr (13, fs)), (qh, .inr (12, fsH)), (q7, .inl (c7, 12002, .inl f7)), (q8, .inl (c8, 12002, .inl f8)), (q9, .inl (c9, 12002, .inl f9)), (q10, .inl (c10, 12002, .inl f10))] s.heap.size = A at hD ⊢
  have hA : ∀ q : Nat, s.heap.size ≤ q → A q := fun q h => by rw [← hAe]; exact Or.inr h
  have hS : va_S A s.heap s.heap [] := va_S.rf
  have hl := lv_entry ([.ref h0]) (n := 1) (Nat.le_of_ble_eq_true rfl)
  rw [lg_entry_eq]
  generalize (lg_sl ([.ref h0]) ++ List.replicate (1 - (lg_sl ([.ref h0])).length) Slot.unset).toArray = ls at hl ⊢
  obtain ⟨H, hHe⟩ : ∃ H, H = s.heap := ⟨_, rfl⟩
  rw [← hHe] at hP ⊢
  have hS : va_S A s.heap H [] := by rw [hHe]; exact hS
  have hl : lv_has ls 1 [(0, .ref h0)] := hl
  refine lv_aload_n hx hb dX13_read_0 rfl (lv_at hl 0 rfl) ?_
  refine lv_iconst (v := 0) hx hb dX13_read_1 (by decide) ?_
  refine kq_put [(1, .int 0), (0, .ref qh), (7, .ref q7), (8, .ref q8), (9, .ref q9), (10, .ref q10), (3, .int 0)] hts iX13 tyX13 tyX13_ok nmX13 hx hb hown hK hP hD hS 0 rfl rfl hJ 1 (by decide) (by decide) (hts _ (bP 135 rfl)) rfl (ty := .int) (by decide +kernel) (v := .int 0) rfl rfl dX13_read_2 (fun f h => kJ_put h _ _ (by decide)) (fun H locs fs hJ hP hD hS => ?_)
  have hP : va_P (dC, dI) vwCl [(h0, .inr (13, fs)), (qh, .inr (12, fsH)), (q7, .inl (c7, 12002, .inl f7)), (q8, .inl (c8, 12002, .inl f8)), (q9, .inl (c9, 12002, .inl f9)), (q10, .inl (c10, 12002, .inl f10))] H := hP
  have hD : va_D A [(h0, .inr (13, fs)), (qh, .inr (12, fsH)), (q7, .inl (c7, 12002, .inl f7)), (q8, .inl (c8, 12002, .inl f8)), (q9, .inl (c9, 12002, .inl f9)), (q10, .inl (c10, 12002, .inl f10))] := hD
  refine lv_aload_n hx hb dX13_read_5 rfl (lv_at hl 0 rfl) ?_
  have hPc := hP.sub (ws' := [(h0, .inr (13, fs)), (q7, .inl (c7, 12002, .inl f7)), (q8, .inl (c8, 12002, .inl f8)), (q9, .inl (c9, 12002, .inl f9)), (q10, .inl (c10, 12002, .inl f10))]) [0, 2, 3, 4, 5] rfl
  have hDc := hD.sub (ws' := [(h0, .inr (13, fs)), (q7, .inl (c7, 12002, .inl f7)), (q8, .inl (c8, 12002, .inl f8)), (q9, .inl (c9, 12002, .inl f9)), (q10, .inl (c10, 12002, .inl f10))]) [0, 2, 3, 4, 5] (by decide) rfl
  have hKc := hK.sub (tys' := [(c7, .int), (c8, .int), (c9, .int), (c10, .int)]) [0, 1, 2, 3] rfl
  have hFc := va_free (wc := [(h0, .inr (13, fs)), (q7, .inl (c7, 12002, .inl f7)), (q8, .inl (c8, 12002, .inl f8)), (q9, .inl (c9, 12002, .inl f9)), (q10, .inl (c10, 12002, .inl f10))]) hD hS hA [0, 2, 3, 4, 5] rfl
  refine va_callv (va_runV (As := []) (rest := []) ⟨hx, hb, hml, hown, hts⟩ (c_M_scanAll l dC dI h0 H.size fs qh q7 q8 q9 q10 c7 c8 c9 c10 f7 f8 f9 f10) (cwV 0 hts (gV (y := yX13_scanAll) _ 200 201 202 149 162 rfl rfl rfl rfl rfl) rfl rfl rfl (by decide +kernel) ⟨Nat.le_of_ble_eq_true rfl, Nat.le_of_ble_eq_true rfl⟩) ⟨fun a U g mk q => by obtain ⟨q0, q1, qJ, qP, qK, qD⟩ := q; exact ⟨q0, q1, qJ, qP, va_K.moved (u := U) (U := U.calling g mk a) (Vm.Alike.refl U.vm) qK, qD⟩, va_recv hKc hPc (ci := 13) (q0 := 0) rfl rfl, fun U hU hW => ⟨rfl, by rw [hU], kJ_sub hJ (by simp), by rw [hU]; exact hPc, va_K.moved hW.alike hKc, hDc.weaken (fun _ _ _ _ => trivial)⟩⟩ rfl rfl hl.1 rfl (lv_room (Nat.le_of_ble_eq_true rfl)) dX13_read_6 ⟨Nat.le_of_ble_eq_true rfl, Nat.le_of_ble_eq_true rfl⟩) hS (fun q _ h => hFc q h) hFc (fun u t H1 locs ht hvm hw hB hz1 hk1 hS => ?_)
  obtain ⟨fs, f7, f8, f9, f10⟩ := u
  obtain ⟨hJ, h7, h9⟩ := hw
  obtain ⟨hP1, hK1, hD1⟩ := hB
  rw [ht] at hP1
  have hK1 := va_K.moved hvm.symm hK1
  obtain ⟨hP, hD⟩ := va_join (wr := [(qh, .inr (12, fsH))]) (w1 := [(h0, .inr (13, fs)), (q7, .inl (c7, 12002, .inl f7)), (q8, .inl (c8, 12002, .inl f8)), (q9, .inl (c9, 12002, .inl f9)), (q10, .inl (c10, 12002, .inl f10))]) hP hD [0, 2, 3, 4, 5] [1] rfl rfl (by decide) (by decide) hk1 hFc hP1 hD1
  have hK := (hK.sub (tys' := []) [] rfl).app hK1
  clear hPc hDc hKc hFc hP1 hK1 hD1 hk1 hz1
  generalize H1 = H at hP hS ⊢
  have hP : va_P (dC, dI) vwCl [(qh, .inr (12, fsH)), (h0, .inr (13, fs)), (q7, .inl (c7, 12002, .inl f7)), (q8, .inl (c8, 12002, .inl f8)), (q9, .inl (c9, 12002, .inl f9)), (q10, .inl (c10, 12002, .inl f10))] H := hP
  have hD : va_D A [(qh, .inr (12, fsH)), (h0, .inr (13, fs)), (q7, .inl (c7, 12002, .inl f7)), (q8, .inl (c8, 12002, .inl f8)), (q9, .inl (c9, 12002, .inl f9)), (q10, .inl (c10, 12002, .inl f10))] := hD
  have hK : va_K (dC, dI) vwCl [(c7, .int), (c8, .int), (c9, .int), (c10, .int)] s := hK
  refine lv_aload_n hx hb dX13_read_9 rfl (lv_at hl 0 rfl) ?_
  refine lv_iconst (v := 0) hx hb dX13_read_10 (by decide) ?_
  refine kq_put [(3, .int 0), (0, .ref qh), (7, .ref q7), (8, .ref q8), (9, .ref q9), (10, .ref q10)] hts iX13 tyX13 tyX13_ok nmX13 hx hb hown hK hP hD hS 1 rfl rfl hJ 3 (by decide) (by decide) (hts _ (bP 139 rfl)) rfl (ty := .int) (by decide +kernel) (v := .int 0) rfl rfl dX13_read_11 (fun f h => kJ_put h _ _ (by decide)) (fun H locs fs hJ hP hD hS => ?_)
  have hP : va_P (dC, dI) vwCl [(qh, .inr (12, fsH)), (h0, .inr (13, fs)), (q7, .inl (c7, 12002, .inl f7)), (q8, .inl (c8, 12002, .inl f8)), (q9, .inl (c9, 12002, .inl f9)), (q10, .inl (c10, 12002, .inl f10))] H := hP
  have hD : va_D A [(qh, .inr (12, fsH)), (h0, .inr (13, fs)), (q7, .inl (c7, 12002, .inl f7)), (q8, .inl (c8, 12002, .inl f8)), (q9, .inl (c9, 12002, .inl f9)), (q10, .inl (c10, 12002, .inl f10))] := hD
  refine lv_aload_n hx hb dX13_read_14 rfl (lv_at hl 0 rfl) ?_
  refine lv_iconst (v := 0) hx hb dX13_read_15 (by decide) ?_
  refine kq_put [(110, .int 0), (3, .int 0), (0, .ref qh), (7, .ref q7), (8, .ref q8), (9, .ref q9), (10, .ref q10)] hts iX13 tyX13 tyX13_ok nmX13 hx hb hown hK hP hD hS 1 rfl rfl hJ 110 (by decide) (by decide) (hts _ (bP 141 rfl)) rfl (ty := .boolean) (by decide +kernel) (v := .int 0) (by decide) (by decide) dX13_read_16 (fun f h => kJ_put h _ _ (by decide)) (fun H locs fs hJ hP hD hS => ?_)
  have hP : va_P (dC, dI) vwCl [(qh, .inr (12, fsH)), (h0, .inr (13, fs)), (q7, .inl (c7, 12002, .inl f7)), (q8, .inl (c8, 12002, .inl f8)), (q9, .inl (c9, 12002, .inl f9)), (q10, .inl (c10, 12002, .inl f10))] H := hP
  have hD : va_D A [(qh, .inr (12, fsH)), (h0, .inr (13, fs)), (q7, .inl (c7, 12002, .inl f7)), (q8, .inl (c8, 12002, .inl f8)), (q9, .inl (c9, 12002, .inl f9)), (q10, .inl (c10, 12002, .inl f10))] := hD
  refine lv_aload_n hx hb dX13_read_19 rfl (lv_at hl 0 rfl) ?_
  refine lv_iconst (v := 0) hx hb dX13_read_20 (by decide) ?_
  refine kq_put [(123, .int 0), (110, .int 0), (3, .int 0), (0, .ref qh), (7, .ref q7), (8, .ref q8), (9, .ref q9), (10, .ref q10)] hts iX13 tyX13 tyX13_ok nmX13 hx hb hown hK hP hD hS 1 rfl rfl hJ 123 (by decide) (by decide) (hts _ (bP 136 rfl)) rfl (ty := .boolean) (by decide +kernel) (v := .int 0) (by decide) (by decide) dX13_read_21 (fun f h => kJ_put h _ _ (by decide)) (fun H locs fs hJ hP hD hS => ?_)
  have hP : va_P (dC, dI) vwCl [(qh, .inr (12, fsH)), (h0, .inr (13, fs)), (q7, .inl (c7, 12002, .inl f7)), (q8, .inl (c8, 12002, .inl f8)), (q9, .inl (c9, 12002, .inl f9)), (q10, .inl (c10, 12002, .inl f10))] H := hP
  have hD : va_D A [(qh, .inr (12, fsH)), (h0, .inr (13, fs)), (q7, .inl (c7, 12002, .inl f7)), (q8, .inl (c8, 12002, .inl f8)), (q9, .inl (c9, 12002, .inl f9)), (q10, .inl (c10, 12002, .inl f10))] := hD
  refine lv_aload_n hx hb dX13_read_24 rfl (lv_at hl 0 rfl) ?_
  have hPc := hP.sub (ws' := [(h0, .inr (13, fs)), (qh, .inr (12, fsH)), (q7, .inl (c7, 12002, .inl f7)), (q9, .inl (c9, 12002, .inl f9))]) [1, 0, 2, 4] rfl
  have hDc := hD.sub (ws' := [(h0, .inr (13, fs)), (qh, .inr (12, fsH)), (q7, .inl (c7, 12002, .inl f7)), (q9, .inl (c9, 12002, .inl f9))]) [1, 0, 2, 4] (by decide) rfl
  have hKc := hK.sub (tys' := [(c7, .int), (c9, .int)]) [0, 2] rfl
  have hFc := va_free (wc := [(h0, .inr (13, fs)), (qh, .inr (12, fsH)), (q7, .inl (c7, 12002, .inl f7)), (q9, .inl (c9, 12002, .inl f9))]) hD hS hA [1, 0, 2, 4] rfl
  refine vx_calli (vx_runVX (As := []) (rest := []) ⟨hx, hb, hml, hown, hts⟩ (c_M_parses l dC dI h0 H.size fs fsH qh q7 q9 c7 c9 f7 f9) (vx_cwVW 0 hts (gV (y := yX13_parses) _ 203 204 205 149 193 rfl rfl rfl rfl rfl) rfl rfl rfl (by decide +kernel) ⟨Nat.le_of_ble_eq_true rfl, Nat.le_of_ble_eq_true rfl⟩) ⟨fun a U g mk q => by obtain ⟨q0, q1, qJ, q7, q9, qca, qP, qK, qD⟩ := q; exact ⟨q0, q1, qJ, q7, q9, va_Nw.same (u := U) (U := U.calling g mk a) rfl rfl qca, qP, va_K.moved (u := U) (U := U.calling g mk a) (Vm.Alike.refl U.vm) qK, qD⟩, va_recv hKc hPc (ci := 13) (q0 := 0) rfl rfl, fun U hU hW => ⟨rfl, by rw [hU], kJ_sub hJ (by simp), h7, h9, va_Nw.warmC hW hca, by rw [hU]; exact hPc, va_K.moved hW.alike hKc, hDc.weaken (fun _ _ _ _ => trivial)⟩⟩ rfl rfl hl.1 rfl (lv_room (Nat.le_of_ble_eq_true rfl)) dX13_read_25 ⟨Nat.le_of_ble_eq_true rfl, Nat.le_of_ble_eq_true rfl⟩) hS (fun q _ h => hFc q h) hFc (fun q _ h => hFc q h) (fun E ce q9_ u t H1 locs ht hvm hw hB hz1 hk1 hS hcell hcv hcl => hw.elim) (fun r u t H1 locs ht hvm hw hB hz1 hk1 hS => ?_)
  obtain ⟨hr0, hw⟩ := hw
  subst hr0
  obtain ⟨fs, hfs⟩ : ∃ z, z = u := ⟨_, rfl⟩
  rw [← hfs] at hB hw
  clear hfs
  have hJ : kJ 180 [(37, .int 1), (36, .int 2)] fs := hw
  obtain ⟨hP1, hK1, hD1⟩ := hB
  rw [ht] at hP1
  have hK1 := va_K.moved hvm.symm hK1
  obtain ⟨hP, hD⟩ := va_join (wr := [(q8, .inl (c8, 12002, .inl f8)), (q10, .inl (c10, 12002, .inl f10))]) (w1 := [(h0, .inr (13, fs)), (qh, .inr (12, fsH)), (q7, .inl (c7, 12002, .inl f7)), (q9, .inl (c9, 12002, .inl f9))]) hP hD [1, 0, 2, 4] [3, 5] rfl rfl (by decide) (by decide) hk1 hFc hP1 hD1
  have hK := (hK.sub (tys' := [(c8, .int), (c10, .int)]) [1, 3] rfl).app hK1
  clear hPc hDc hKc hFc hP1 hK1 hD1 hk1 hz1
  generalize H1 = H at hP hS ⊢
  have hP : va_P (dC, dI) vwCl [(q8, .inl (c8, 12002, .inl f8)), (q10, .inl (c10, 12002, .inl f10)), (h0, .inr (13, fs)), (qh, .inr (12, fsH)), (q7, .inl (c7, 12002, .inl f7)), (q9, .inl (c9, 12002, .inl f9))] H := hP
  have hD : va_D A [(q8, .inl (c8, 12002, .inl f8)), (q10, .inl (c10, 12002, .inl f10)), (h0, .inr (13, fs)), (qh, .inr (12, fsH)), (q7, .inl (c7, 12002, .inl f7)), (q9, .inl (c9, 12002, .inl f9))] := hD
  have hK : va_K (dC, dI) vwCl [(c8, .int), (c10, .int), (c7, .int), (c9, .int)] s := hK
  refine lv_if_ne (tgt := 44) hx hb dX13_read_28 (by decide) (fun h => absurd h (by decide)) (fun _ => ?_)
  refine lv_aload_n hx hb dX13_read_31 rfl (lv_at hl 0 rfl) ?_
  refine va_get (D := (dC, dI)) (ci := 13) (v := .int 2) (C := RX13) (T := TX13) (N := 180) hx hb hts iX13 hown hK hP 2 rfl rfl 36 (by decide) (hts _ (bP 180 rfl)) (fun _ h9 => h9) (kJ_at hJ 1 rfl) dX13_read_32 ?_
  refine lv_bipush (v := 16) hx hb dX13_read_35 (by decide) ?_
  refine lv_aload_n hx hb dX13_read_37 rfl (lv_at hl 0 rfl) ?_
  refine va_get (D := (dC, dI)) (ci := 13) (v := .int 1) (C := RX13) (T := TX13) (N := 180) hx hb hts iX13 hown hK hP 2 rfl rfl 37 (by decide) (hts _ (bP 181 rfl)) (fun _ h9 => h9) (kJ_at hJ 0 rfl) dX13_read_38 ?_
  refine lv_imul hx hb dX13_read_41 ?_
  refine k_i (v := 16) (by decide) ?_
  refine lv_iadd hx hb dX13_read_42 ?_
  refine k_i (v := 18) (by decide) ?_
  exact W.iret (v := 18) hx hb hr (fun t ht hW => ⟨⟨18, (), rfl, rfl, trivial⟩, hS.F ht⟩) hS.2.2 dX13_read_43
end
section
/-! The class: constructors of its parts -/
theorem dX0_init_0 : decode cX0_init 0 = .ok (.aload_n 0, 1) := by decide +kernel
theorem dX0_init_1 : decode cX0_init 1 = .ok (.invokespecial 3, 3) := by decide +kernel
theorem dX0_init_4 : decode cX0_init 4 = .ok (.aload_n 0, 1) := by decide +kernel
theorem dX0_init_5 : decode cX0_init 5 = .ok (.ldc 11, 2) := by decide +kernel
theorem dX0_init_7 : decode cX0_init 7 = .ok (.newarray .int, 2) := by decide +kernel
theorem dX0_init_9 : decode cX0_init 9 = .ok (.putfield 12, 3) := by decide +kernel
theorem dX0_init_12 : decode cX0_init 12 = .ok (.aload_n 0, 1) := by decide +kernel
theorem dX0_init_13 : decode cX0_init 13 = .ok (.sipush 401, 3) := by decide +kernel
theorem dX0_init_16 : decode cX0_init 16 = .ok (.newarray .int, 2) := by decide +kernel
theorem dX0_init_18 : decode cX0_init 18 = .ok (.putfield 16, 3) := by decide +kernel
theorem dX0_init_21 : decode cX0_init 21 = .ok (.aload_n 0, 1) := by decide +kernel
theorem dX0_init_22 : decode cX0_init 22 = .ok (.sipush 401, 3) := by decide +kernel
theorem dX0_init_25 : decode cX0_init 25 = .ok (.newarray .int, 2) := by decide +kernel
theorem dX0_init_27 : decode cX0_init 27 = .ok (.putfield 19, 3) := by decide +kernel
theorem dX0_init_30 : decode cX0_init 30 = .ok (.aload_n 0, 1) := by decide +kernel
theorem dX0_init_31 : decode cX0_init 31 = .ok (.aload_n 1, 1) := by decide +kernel
theorem dX0_init_32 : decode cX0_init 32 = .ok (.putfield 22, 3) := by decide +kernel
theorem dX0_init_35 : decode cX0_init 35 = .ok (.aload_n 0, 1) := by decide +kernel
theorem dX0_init_36 : decode cX0_init 36 = .ok (.aload_n 2, 1) := by decide +kernel
theorem dX0_init_37 : decode cX0_init 37 = .ok (.putfield 26, 3) := by decide +kernel
theorem dX0_init_40 : decode cX0_init 40 = .ok (.return_, 1) := by decide +kernel
theorem dX2_init_0 : decode cX2_init 0 = .ok (.aload_n 0, 1) := by decide +kernel
theorem dX2_init_1 : decode cX2_init 1 = .ok (.invokespecial 3, 3) := by decide +kernel
theorem dX2_init_4 : decode cX2_init 4 = .ok (.aload_n 0, 1) := by decide +kernel
theorem dX2_init_5 : decode cX2_init 5 = .ok (.sipush 4096, 3) := by decide +kernel
theorem dX2_init_8 : decode cX2_init 8 = .ok (.newarray .int, 2) := by decide +kernel
theorem dX2_init_10 : decode cX2_init 10 = .ok (.putfield 9, 3) := by decide +kernel
theorem dX2_init_13 : decode cX2_init 13 = .ok (.aload_n 0, 1) := by decide +kernel
theorem dX2_init_14 : decode cX2_init 14 = .ok (.sipush 512, 3) := by decide +kernel
theorem dX2_init_17 : decode cX2_init 17 = .ok (.newarray .int, 2) := by decide +kernel
theorem dX2_init_19 : decode cX2_init 19 = .ok (.putfield 15, 3) := by decide +kernel
theorem dX2_init_22 : decode cX2_init 22 = .ok (.aload_n 0, 1) := by decide +kernel
theorem dX2_init_23 : decode cX2_init 23 = .ok (.sipush 512, 3) := by decide +kernel
theorem dX2_init_26 : decode cX2_init 26 = .ok (.newarray .int, 2) := by decide +kernel
theorem dX2_init_28 : decode cX2_init 28 = .ok (.putfield 18, 3) := by decide +kernel
theorem dX2_init_31 : decode cX2_init 31 = .ok (.aload_n 0, 1) := by decide +kernel
theorem dX2_init_32 : decode cX2_init 32 = .ok (.sipush 512, 3) := by decide +kernel
theorem dX2_init_35 : decode cX2_init 35 = .ok (.newarray .int, 2) := by decide +kernel
theorem dX2_init_37 : decode cX2_init 37 = .ok (.putfield 21, 3) := by decide +kernel
theorem dX2_init_40 : decode cX2_init 40 = .ok (.aload_n 0, 1) := by decide +kernel
theorem dX2_init_41 : decode cX2_init 41 = .ok (.sipush 512, 3) := by decide +kernel
theorem dX2_init_44 : decode cX2_init 44 = .ok (.newarray .int, 2) := by decide +kernel
theorem dX2_init_46 : decode cX2_init 46 = .ok (.putfield 24, 3) := by decide +kernel
theorem dX2_init_49 : decode cX2_init 49 = .ok (.aload_n 0, 1) := by decide +kernel
theorem dX2_init_50 : decode cX2_init 50 = .ok (.sipush 512, 3) := by decide +kernel
theorem dX2_init_53 : decode cX2_init 53 = .ok (.newarray .int, 2) := by decide +kernel
theorem dX2_init_55 : decode cX2_init 55 = .ok (.putfield 27, 3) := by decide +kernel
theorem dX2_init_58 : decode cX2_init 58 = .ok (.aload_n 0, 1) := by decide +kernel
theorem dX2_init_59 : decode cX2_init 59 = .ok (.sipush 512, 3) := by decide +kernel
theorem dX2_init_62 : decode cX2_init 62 = .ok (.newarray .int, 2) := by decide +kernel
theorem dX2_init_64 : decode cX2_init 64 = .ok (.putfield 30, 3) := by decide +kernel
theorem dX2_init_67 : decode cX2_init 67 = .ok (.return_, 1) := by decide +kernel
theorem dX4_init_0 : decode cX4_init 0 = .ok (.aload_n 0, 1) := by decide +kernel
theorem dX4_init_1 : decode cX4_init 1 = .ok (.invokespecial 3, 3) := by decide +kernel
theorem dX4_init_4 : decode cX4_init 4 = .ok (.aload_n 0, 1) := by decide +kernel
theorem dX4_init_5 : decode cX4_init 5 = .ok (.sipush 3100, 3) := by decide +kernel
theorem dX4_init_8 : decode cX4_init 8 = .ok (.newarray .int, 2) := by decide +kernel
theorem dX4_init_10 : decode cX4_init 10 = .ok (.putfield 9, 3) := by decide +kernel
theorem dX4_init_13 : decode cX4_init 13 = .ok (.aload_n 0, 1) := by decide +kernel
theorem dX4_init_14 : decode cX4_init 14 = .ok (.sipush 3100, 3) := by decide +kernel
theorem dX4_init_17 : decode cX4_init 17 = .ok (.newarray .int, 2) := by decide +kernel
theorem dX4_init_19 : decode cX4_init 19 = .ok (.putfield 15, 3) := by decide +kernel
theorem dX4_init_22 : decode cX4_init 22 = .ok (.aload_n 0, 1) := by decide +kernel
theorem dX4_init_23 : decode cX4_init 23 = .ok (.sipush 3100, 3) := by decide +kernel
theorem dX4_init_26 : decode cX4_init 26 = .ok (.newarray .int, 2) := by decide +kernel
theorem dX4_init_28 : decode cX4_init 28 = .ok (.putfield 18, 3) := by decide +kernel
theorem dX4_init_31 : decode cX4_init 31 = .ok (.aload_n 0, 1) := by decide +kernel
theorem dX4_init_32 : decode cX4_init 32 = .ok (.sipush 3100, 3) := by decide +kernel
theorem dX4_init_35 : decode cX4_init 35 = .ok (.newarray .int, 2) := by decide +kernel
theorem dX4_init_37 : decode cX4_init 37 = .ok (.putfield 21, 3) := by decide +kernel
theorem dX4_init_40 : decode cX4_init 40 = .ok (.aload_n 0, 1) := by decide +kernel
theorem dX4_init_41 : decode cX4_init 41 = .ok (.sipush 3100, 3) := by decide +kernel
theorem dX4_init_44 : decode cX4_init 44 = .ok (.newarray .int, 2) := by decide +kernel
theorem dX4_init_46 : decode cX4_init 46 = .ok (.putfield 24, 3) := by decide +kernel
theorem dX4_init_49 : decode cX4_init 49 = .ok (.aload_n 0, 1) := by decide +kernel
theorem dX4_init_50 : decode cX4_init 50 = .ok (.sipush 3100, 3) := by decide +kernel
theorem dX4_init_53 : decode cX4_init 53 = .ok (.newarray .int, 2) := by decide +kernel
theorem dX4_init_55 : decode cX4_init 55 = .ok (.putfield 27, 3) := by decide +kernel
theorem dX4_init_58 : decode cX4_init 58 = .ok (.aload_n 0, 1) := by decide +kernel
theorem dX4_init_59 : decode cX4_init 59 = .ok (.sipush 3100, 3) := by decide +kernel
theorem dX4_init_62 : decode cX4_init 62 = .ok (.newarray .int, 2) := by decide +kernel
theorem dX4_init_64 : decode cX4_init 64 = .ok (.putfield 30, 3) := by decide +kernel
theorem dX4_init_67 : decode cX4_init 67 = .ok (.aload_n 0, 1) := by decide +kernel
theorem dX4_init_68 : decode cX4_init 68 = .ok (.sipush 3100, 3) := by decide +kernel
theorem dX4_init_71 : decode cX4_init 71 = .ok (.newarray .int, 2) := by decide +kernel
theorem dX4_init_73 : decode cX4_init 73 = .ok (.putfield 33, 3) := by decide +kernel
theorem dX4_init_76 : decode cX4_init 76 = .ok (.aload_n 0, 1) := by decide +kernel
theorem dX4_init_77 : decode cX4_init 77 = .ok (.sipush 3100, 3) := by decide +kernel
theorem dX4_init_80 : decode cX4_init 80 = .ok (.newarray .int, 2) := by decide +kernel
theorem dX4_init_82 : decode cX4_init 82 = .ok (.putfield 36, 3) := by decide +kernel
theorem dX4_init_85 : decode cX4_init 85 = .ok (.aload_n 0, 1) := by decide +kernel
theorem dX4_init_86 : decode cX4_init 86 = .ok (.sipush 3150, 3) := by decide +kernel
theorem dX4_init_89 : decode cX4_init 89 = .ok (.newarray .int, 2) := by decide +kernel
theorem dX4_init_91 : decode cX4_init 91 = .ok (.putfield 39, 3) := by decide +kernel
theorem dX4_init_94 : decode cX4_init 94 = .ok (.aload_n 0, 1) := by decide +kernel
theorem dX4_init_95 : decode cX4_init 95 = .ok (.sipush 3150, 3) := by decide +kernel
theorem dX4_init_98 : decode cX4_init 98 = .ok (.newarray .int, 2) := by decide +kernel
theorem dX4_init_100 : decode cX4_init 100 = .ok (.putfield 42, 3) := by decide +kernel
theorem dX4_init_103 : decode cX4_init 103 = .ok (.aload_n 0, 1) := by decide +kernel
theorem dX4_init_104 : decode cX4_init 104 = .ok (.sipush 3100, 3) := by decide +kernel
theorem dX4_init_107 : decode cX4_init 107 = .ok (.newarray .int, 2) := by decide +kernel
theorem dX4_init_109 : decode cX4_init 109 = .ok (.putfield 45, 3) := by decide +kernel
theorem dX4_init_112 : decode cX4_init 112 = .ok (.aload_n 0, 1) := by decide +kernel
theorem dX4_init_113 : decode cX4_init 113 = .ok (.aload_n 1, 1) := by decide +kernel
theorem dX4_init_114 : decode cX4_init 114 = .ok (.putfield 48, 3) := by decide +kernel
theorem dX4_init_117 : decode cX4_init 117 = .ok (.return_, 1) := by decide +kernel
theorem dX5_init_0 : decode cX5_init 0 = .ok (.aload_n 0, 1) := by decide +kernel
theorem dX5_init_1 : decode cX5_init 1 = .ok (.invokespecial 3, 3) := by decide +kernel
theorem dX5_init_4 : decode cX5_init 4 = .ok (.aload_n 0, 1) := by decide +kernel
theorem dX5_init_5 : decode cX5_init 5 = .ok (.bipush 16, 2) := by decide +kernel
theorem dX5_init_7 : decode cX5_init 7 = .ok (.newarray .int, 2) := by decide +kernel
theorem dX5_init_9 : decode cX5_init 9 = .ok (.putfield 9, 3) := by decide +kernel
theorem dX5_init_12 : decode cX5_init 12 = .ok (.aload_n 0, 1) := by decide +kernel
theorem dX5_init_13 : decode cX5_init 13 = .ok (.bipush 32, 2) := by decide +kernel
theorem dX5_init_15 : decode cX5_init 15 = .ok (.newarray .int, 2) := by decide +kernel
theorem dX5_init_17 : decode cX5_init 17 = .ok (.putfield 15, 3) := by decide +kernel
theorem dX5_init_20 : decode cX5_init 20 = .ok (.aload_n 0, 1) := by decide +kernel
theorem dX5_init_21 : decode cX5_init 21 = .ok (.iload_n 1, 1) := by decide +kernel
theorem dX5_init_22 : decode cX5_init 22 = .ok (.putfield 18, 3) := by decide +kernel
theorem dX5_init_25 : decode cX5_init 25 = .ok (.return_, 1) := by decide +kernel
theorem dX6_init_0 : decode cX6_init 0 = .ok (.aload_n 0, 1) := by decide +kernel
theorem dX6_init_1 : decode cX6_init 1 = .ok (.invokespecial 5, 3) := by decide +kernel
theorem dX6_init_4 : decode cX6_init 4 = .ok (.aload_n 0, 1) := by decide +kernel
theorem dX6_init_5 : decode cX6_init 5 = .ok (.sipush 3100, 3) := by decide +kernel
theorem dX6_init_8 : decode cX6_init 8 = .ok (.newarray .long, 2) := by decide +kernel
theorem dX6_init_10 : decode cX6_init 10 = .ok (.putfield 11, 3) := by decide +kernel
theorem dX6_init_13 : decode cX6_init 13 = .ok (.aload_n 0, 1) := by decide +kernel
theorem dX6_init_14 : decode cX6_init 14 = .ok (.sipush 3100, 3) := by decide +kernel
theorem dX6_init_17 : decode cX6_init 17 = .ok (.newarray .int, 2) := by decide +kernel
theorem dX6_init_19 : decode cX6_init 19 = .ok (.putfield 15, 3) := by decide +kernel
theorem dX6_init_22 : decode cX6_init 22 = .ok (.aload_n 0, 1) := by decide +kernel
theorem dX6_init_23 : decode cX6_init 23 = .ok (.sipush 3100, 3) := by decide +kernel
theorem dX6_init_26 : decode cX6_init 26 = .ok (.newarray .int, 2) := by decide +kernel
theorem dX6_init_28 : decode cX6_init 28 = .ok (.putfield 19, 3) := by decide +kernel
theorem dX6_init_31 : decode cX6_init 31 = .ok (.aload_n 0, 1) := by decide +kernel
theorem dX6_init_32 : decode cX6_init 32 = .ok (.sipush 3100, 3) := by decide +kernel
theorem dX6_init_35 : decode cX6_init 35 = .ok (.newarray .int, 2) := by decide +kernel
theorem dX6_init_37 : decode cX6_init 37 = .ok (.putfield 22, 3) := by decide +kernel
theorem dX6_init_40 : decode cX6_init 40 = .ok (.aload_n 0, 1) := by decide +kernel
theorem dX6_init_41 : decode cX6_init 41 = .ok (.bipush 14, 2) := by decide +kernel
theorem dX6_init_43 : decode cX6_init 43 = .ok (.newarray .int, 2) := by decide +kernel
theorem dX6_init_45 : decode cX6_init 45 = .ok (.putfield 25, 3) := by decide +kernel
theorem dX6_init_48 : decode cX6_init 48 = .ok (.aload_n 0, 1) := by decide +kernel
theorem dX6_init_49 : decode cX6_init 49 = .ok (.ldc 28, 2) := by decide +kernel
theorem dX6_init_51 : decode cX6_init 51 = .ok (.newarray .int, 2) := by decide +kernel
theorem dX6_init_53 : decode cX6_init 53 = .ok (.putfield 29, 3) := by decide +kernel
theorem dX6_init_56 : decode cX6_init 56 = .ok (.aload_n 0, 1) := by decide +kernel
theorem dX6_init_57 : decode cX6_init 57 = .ok (.sipush 16800, 3) := by decide +kernel
theorem dX6_init_60 : decode cX6_init 60 = .ok (.newarray .int, 2) := by decide +kernel
theorem dX6_init_62 : decode cX6_init 62 = .ok (.putfield 32, 3) := by decide +kernel
theorem dX6_init_65 : decode cX6_init 65 = .ok (.aload_n 0, 1) := by decide +kernel
theorem dX6_init_66 : decode cX6_init 66 = .ok (.sipush 3100, 3) := by decide +kernel
theorem dX6_init_69 : decode cX6_init 69 = .ok (.newarray .int, 2) := by decide +kernel
theorem dX6_init_71 : decode cX6_init 71 = .ok (.putfield 35, 3) := by decide +kernel
theorem dX6_init_74 : decode cX6_init 74 = .ok (.aload_n 0, 1) := by decide +kernel
theorem dX6_init_75 : decode cX6_init 75 = .ok (.sipush 3100, 3) := by decide +kernel
theorem dX6_init_78 : decode cX6_init 78 = .ok (.newarray .int, 2) := by decide +kernel
theorem dX6_init_80 : decode cX6_init 80 = .ok (.putfield 38, 3) := by decide +kernel
theorem dX6_init_83 : decode cX6_init 83 = .ok (.aload_n 0, 1) := by decide +kernel
theorem dX6_init_84 : decode cX6_init 84 = .ok (.aload_n 1, 1) := by decide +kernel
theorem dX6_init_85 : decode cX6_init 85 = .ok (.putfield 41, 3) := by decide +kernel
theorem dX6_init_88 : decode cX6_init 88 = .ok (.aload_n 0, 1) := by decide +kernel
theorem dX6_init_89 : decode cX6_init 89 = .ok (.aload_n 2, 1) := by decide +kernel
theorem dX6_init_90 : decode cX6_init 90 = .ok (.putfield 45, 3) := by decide +kernel
theorem dX6_init_93 : decode cX6_init 93 = .ok (.return_, 1) := by decide +kernel
theorem dX7_init_0 : decode cX7_init 0 = .ok (.aload_n 0, 1) := by decide +kernel
theorem dX7_init_1 : decode cX7_init 1 = .ok (.invokespecial 3, 3) := by decide +kernel
theorem dX7_init_4 : decode cX7_init 4 = .ok (.aload_n 0, 1) := by decide +kernel
theorem dX7_init_5 : decode cX7_init 5 = .ok (.sipush 6000, 3) := by decide +kernel
theorem dX7_init_8 : decode cX7_init 8 = .ok (.newarray .byte, 2) := by decide +kernel
theorem dX7_init_10 : decode cX7_init 10 = .ok (.putfield 9, 3) := by decide +kernel
theorem dX7_init_13 : decode cX7_init 13 = .ok (.aload_n 0, 1) := by decide +kernel
theorem dX7_init_14 : decode cX7_init 14 = .ok (.sipush 6010, 3) := by decide +kernel
theorem dX7_init_17 : decode cX7_init 17 = .ok (.newarray .int, 2) := by decide +kernel
theorem dX7_init_19 : decode cX7_init 19 = .ok (.putfield 15, 3) := by decide +kernel
theorem dX7_init_22 : decode cX7_init 22 = .ok (.aload_n 0, 1) := by decide +kernel
theorem dX7_init_23 : decode cX7_init 23 = .ok (.sipush 6010, 3) := by decide +kernel
theorem dX7_init_26 : decode cX7_init 26 = .ok (.newarray .int, 2) := by decide +kernel
theorem dX7_init_28 : decode cX7_init 28 = .ok (.putfield 19, 3) := by decide +kernel
theorem dX7_init_31 : decode cX7_init 31 = .ok (.aload_n 0, 1) := by decide +kernel
theorem dX7_init_32 : decode cX7_init 32 = .ok (.sipush 6010, 3) := by decide +kernel
theorem dX7_init_35 : decode cX7_init 35 = .ok (.newarray .int, 2) := by decide +kernel
theorem dX7_init_37 : decode cX7_init 37 = .ok (.putfield 22, 3) := by decide +kernel
theorem dX7_init_40 : decode cX7_init 40 = .ok (.aload_n 0, 1) := by decide +kernel
theorem dX7_init_41 : decode cX7_init 41 = .ok (.sipush 6010, 3) := by decide +kernel
theorem dX7_init_44 : decode cX7_init 44 = .ok (.newarray .int, 2) := by decide +kernel
theorem dX7_init_46 : decode cX7_init 46 = .ok (.putfield 25, 3) := by decide +kernel
theorem dX7_init_49 : decode cX7_init 49 = .ok (.aload_n 0, 1) := by decide +kernel
theorem dX7_init_50 : decode cX7_init 50 = .ok (.sipush 6000, 3) := by decide +kernel
theorem dX7_init_53 : decode cX7_init 53 = .ok (.newarray .int, 2) := by decide +kernel
theorem dX7_init_55 : decode cX7_init 55 = .ok (.putfield 28, 3) := by decide +kernel
theorem dX7_init_58 : decode cX7_init 58 = .ok (.aload_n 0, 1) := by decide +kernel
theorem dX7_init_59 : decode cX7_init 59 = .ok (.sipush 6400, 3) := by decide +kernel
theorem dX7_init_62 : decode cX7_init 62 = .ok (.newarray .byte, 2) := by decide +kernel
theorem dX7_init_64 : decode cX7_init 64 = .ok (.putfield 31, 3) := by decide +kernel
theorem dX7_init_67 : decode cX7_init 67 = .ok (.aload_n 0, 1) := by decide +kernel
theorem dX7_init_68 : decode cX7_init 68 = .ok (.sipush 3150, 3) := by decide +kernel
theorem dX7_init_71 : decode cX7_init 71 = .ok (.newarray .int, 2) := by decide +kernel
theorem dX7_init_73 : decode cX7_init 73 = .ok (.putfield 34, 3) := by decide +kernel
theorem dX7_init_76 : decode cX7_init 76 = .ok (.aload_n 0, 1) := by decide +kernel
theorem dX7_init_77 : decode cX7_init 77 = .ok (.sipush 3150, 3) := by decide +kernel
theorem dX7_init_80 : decode cX7_init 80 = .ok (.newarray .int, 2) := by decide +kernel
theorem dX7_init_82 : decode cX7_init 82 = .ok (.putfield 37, 3) := by decide +kernel
theorem dX7_init_85 : decode cX7_init 85 = .ok (.aload_n 0, 1) := by decide +kernel
theorem dX7_init_86 : decode cX7_init 86 = .ok (.sipush 512, 3) := by decide +kernel
theorem dX7_init_89 : decode cX7_init 89 = .ok (.newarray .int, 2) := by decide +kernel
theorem dX7_init_91 : decode cX7_init 91 = .ok (.putfield 40, 3) := by decide +kernel
theorem dX7_init_94 : decode cX7_init 94 = .ok (.return_, 1) := by decide +kernel
theorem dX8_init_0 : decode cX8_init 0 = .ok (.aload_n 0, 1) := by decide +kernel
theorem dX8_init_1 : decode cX8_init 1 = .ok (.invokespecial 3, 3) := by decide +kernel
theorem dX8_init_4 : decode cX8_init 4 = .ok (.aload_n 0, 1) := by decide +kernel
theorem dX8_init_5 : decode cX8_init 5 = .ok (.sipush 6200, 3) := by decide +kernel
theorem dX8_init_8 : decode cX8_init 8 = .ok (.newarray .int, 2) := by decide +kernel
theorem dX8_init_10 : decode cX8_init 10 = .ok (.putfield 9, 3) := by decide +kernel
theorem dX8_init_13 : decode cX8_init 13 = .ok (.aload_n 0, 1) := by decide +kernel
theorem dX8_init_14 : decode cX8_init 14 = .ok (.sipush 6200, 3) := by decide +kernel
theorem dX8_init_17 : decode cX8_init 17 = .ok (.newarray .int, 2) := by decide +kernel
theorem dX8_init_19 : decode cX8_init 19 = .ok (.putfield 15, 3) := by decide +kernel
theorem dX8_init_22 : decode cX8_init 22 = .ok (.aload_n 0, 1) := by decide +kernel
theorem dX8_init_23 : decode cX8_init 23 = .ok (.sipush 6200, 3) := by decide +kernel
theorem dX8_init_26 : decode cX8_init 26 = .ok (.newarray .int, 2) := by decide +kernel
theorem dX8_init_28 : decode cX8_init 28 = .ok (.putfield 18, 3) := by decide +kernel
theorem dX8_init_31 : decode cX8_init 31 = .ok (.aload_n 0, 1) := by decide +kernel
theorem dX8_init_32 : decode cX8_init 32 = .ok (.sipush 6200, 3) := by decide +kernel
theorem dX8_init_35 : decode cX8_init 35 = .ok (.newarray .int, 2) := by decide +kernel
theorem dX8_init_37 : decode cX8_init 37 = .ok (.putfield 21, 3) := by decide +kernel
theorem dX8_init_40 : decode cX8_init 40 = .ok (.aload_n 0, 1) := by decide +kernel
theorem dX8_init_41 : decode cX8_init 41 = .ok (.sipush 6200, 3) := by decide +kernel
theorem dX8_init_44 : decode cX8_init 44 = .ok (.newarray .int, 2) := by decide +kernel
theorem dX8_init_46 : decode cX8_init 46 = .ok (.putfield 24, 3) := by decide +kernel
theorem dX8_init_49 : decode cX8_init 49 = .ok (.aload_n 0, 1) := by decide +kernel
theorem dX8_init_50 : decode cX8_init 50 = .ok (.sipush 6200, 3) := by decide +kernel
theorem dX8_init_53 : decode cX8_init 53 = .ok (.newarray .int, 2) := by decide +kernel
theorem dX8_init_55 : decode cX8_init 55 = .ok (.putfield 27, 3) := by decide +kernel
theorem dX8_init_58 : decode cX8_init 58 = .ok (.aload_n 0, 1) := by decide +kernel
theorem dX8_init_59 : decode cX8_init 59 = .ok (.sipush 6200, 3) := by decide +kernel
theorem dX8_init_62 : decode cX8_init 62 = .ok (.newarray .int, 2) := by decide +kernel
theorem dX8_init_64 : decode cX8_init 64 = .ok (.putfield 30, 3) := by decide +kernel
theorem dX8_init_67 : decode cX8_init 67 = .ok (.aload_n 0, 1) := by decide +kernel
theorem dX8_init_68 : decode cX8_init 68 = .ok (.sipush 6200, 3) := by decide +kernel
theorem dX8_init_71 : decode cX8_init 71 = .ok (.newarray .int, 2) := by decide +kernel
theorem dX8_init_73 : decode cX8_init 73 = .ok (.putfield 33, 3) := by decide +kernel
theorem dX8_init_76 : decode cX8_init 76 = .ok (.aload_n 0, 1) := by decide +kernel
theorem dX8_init_77 : decode cX8_init 77 = .ok (.sipush 6200, 3) := by decide +kernel
theorem dX8_init_80 : decode cX8_init 80 = .ok (.newarray .int, 2) := by decide +kernel
theorem dX8_init_82 : decode cX8_init 82 = .ok (.putfield 36, 3) := by decide +kernel
theorem dX8_init_85 : decode cX8_init 85 = .ok (.aload_n 0, 1) := by decide +kernel
theorem dX8_init_86 : decode cX8_init 86 = .ok (.sipush 6200, 3) := by decide +kernel
theorem dX8_init_89 : decode cX8_init 89 = .ok (.newarray .int, 2) := by decide +kernel
theorem dX8_init_91 : decode cX8_init 91 = .ok (.putfield 39, 3) := by decide +kernel
theorem dX8_init_94 : decode cX8_init 94 = .ok (.aload_n 0, 1) := by decide +kernel
theorem dX8_init_95 : decode cX8_init 95 = .ok (.aload_n 1, 1) := by decide +kernel
theorem dX8_init_96 : decode cX8_init 96 = .ok (.putfield 42, 3) := by decide +kernel
theorem dX8_init_99 : decode cX8_init 99 = .ok (.return_, 1) := by decide +kernel
theorem dX9_init_0 : decode cX9_init 0 = .ok (.aload_n 0, 1) := by decide +kernel
theorem dX9_init_1 : decode cX9_init 1 = .ok (.invokespecial 3, 3) := by decide +kernel
theorem dX9_init_4 : decode cX9_init 4 = .ok (.aload_n 0, 1) := by decide +kernel
theorem dX9_init_5 : decode cX9_init 5 = .ok (.sipush 3100, 3) := by decide +kernel
theorem dX9_init_8 : decode cX9_init 8 = .ok (.newarray .int, 2) := by decide +kernel
theorem dX9_init_10 : decode cX9_init 10 = .ok (.putfield 9, 3) := by decide +kernel
theorem dX9_init_13 : decode cX9_init 13 = .ok (.aload_n 0, 1) := by decide +kernel
theorem dX9_init_14 : decode cX9_init 14 = .ok (.aload_n 1, 1) := by decide +kernel
theorem dX9_init_15 : decode cX9_init 15 = .ok (.putfield 15, 3) := by decide +kernel
theorem dX9_init_18 : decode cX9_init 18 = .ok (.aload_n 0, 1) := by decide +kernel
theorem dX9_init_19 : decode cX9_init 19 = .ok (.aload_n 2, 1) := by decide +kernel
theorem dX9_init_20 : decode cX9_init 20 = .ok (.putfield 19, 3) := by decide +kernel
theorem dX9_init_23 : decode cX9_init 23 = .ok (.return_, 1) := by decide +kernel
theorem dX10_init_0 : decode cX10_init 0 = .ok (.aload_n 0, 1) := by decide +kernel
theorem dX10_init_1 : decode cX10_init 1 = .ok (.invokespecial 3, 3) := by decide +kernel
theorem dX10_init_4 : decode cX10_init 4 = .ok (.aload_n 0, 1) := by decide +kernel
theorem dX10_init_5 : decode cX10_init 5 = .ok (.sipush 8200, 3) := by decide +kernel
theorem dX10_init_8 : decode cX10_init 8 = .ok (.newarray .int, 2) := by decide +kernel
theorem dX10_init_10 : decode cX10_init 10 = .ok (.putfield 9, 3) := by decide +kernel
theorem dX10_init_13 : decode cX10_init 13 = .ok (.aload_n 0, 1) := by decide +kernel
theorem dX10_init_14 : decode cX10_init 14 = .ok (.sipush 8200, 3) := by decide +kernel
theorem dX10_init_17 : decode cX10_init 17 = .ok (.newarray .int, 2) := by decide +kernel
theorem dX10_init_19 : decode cX10_init 19 = .ok (.putfield 15, 3) := by decide +kernel
theorem dX10_init_22 : decode cX10_init 22 = .ok (.aload_n 0, 1) := by decide +kernel
theorem dX10_init_23 : decode cX10_init 23 = .ok (.sipush 8200, 3) := by decide +kernel
theorem dX10_init_26 : decode cX10_init 26 = .ok (.newarray .int, 2) := by decide +kernel
theorem dX10_init_28 : decode cX10_init 28 = .ok (.putfield 18, 3) := by decide +kernel
theorem dX10_init_31 : decode cX10_init 31 = .ok (.aload_n 0, 1) := by decide +kernel
theorem dX10_init_32 : decode cX10_init 32 = .ok (.sipush 8200, 3) := by decide +kernel
theorem dX10_init_35 : decode cX10_init 35 = .ok (.newarray .int, 2) := by decide +kernel
theorem dX10_init_37 : decode cX10_init 37 = .ok (.putfield 21, 3) := by decide +kernel
theorem dX10_init_40 : decode cX10_init 40 = .ok (.aload_n 0, 1) := by decide +kernel
theorem dX10_init_41 : decode cX10_init 41 = .ok (.ldc 24, 2) := by decide +kernel
theorem dX10_init_43 : decode cX10_init 43 = .ok (.newarray .int, 2) := by decide +kernel
theorem dX10_init_45 : decode cX10_init 45 = .ok (.putfield 25, 3) := by decide +kernel
theorem dX10_init_48 : decode cX10_init 48 = .ok (.aload_n 0, 1) := by decide +kernel
theorem dX10_init_49 : decode cX10_init 49 = .ok (.sipush 3100, 3) := by decide +kernel
theorem dX10_init_52 : decode cX10_init 52 = .ok (.newarray .int, 2) := by decide +kernel
theorem dX10_init_54 : decode cX10_init 54 = .ok (.putfield 28, 3) := by decide +kernel
theorem dX10_init_57 : decode cX10_init 57 = .ok (.aload_n 0, 1) := by decide +kernel
theorem dX10_init_58 : decode cX10_init 58 = .ok (.sipush 3100, 3) := by decide +kernel
theorem dX10_init_61 : decode cX10_init 61 = .ok (.newarray .int, 2) := by decide +kernel
theorem dX10_init_63 : decode cX10_init 63 = .ok (.putfield 31, 3) := by decide +kernel
theorem dX10_init_66 : decode cX10_init 66 = .ok (.aload_n 0, 1) := by decide +kernel
theorem dX10_init_67 : decode cX10_init 67 = .ok (.sipush 6200, 3) := by decide +kernel
theorem dX10_init_70 : decode cX10_init 70 = .ok (.newarray .int, 2) := by decide +kernel
theorem dX10_init_72 : decode cX10_init 72 = .ok (.putfield 34, 3) := by decide +kernel
theorem dX10_init_75 : decode cX10_init 75 = .ok (.aload_n 0, 1) := by decide +kernel
theorem dX10_init_76 : decode cX10_init 76 = .ok (.sipush 3100, 3) := by decide +kernel
theorem dX10_init_79 : decode cX10_init 79 = .ok (.newarray .int, 2) := by decide +kernel
theorem dX10_init_81 : decode cX10_init 81 = .ok (.putfield 37, 3) := by decide +kernel
theorem dX10_init_84 : decode cX10_init 84 = .ok (.aload_n 0, 1) := by decide +kernel
theorem dX10_init_85 : decode cX10_init 85 = .ok (.sipush 3100, 3) := by decide +kernel
theorem dX10_init_88 : decode cX10_init 88 = .ok (.newarray .int, 2) := by decide +kernel
theorem dX10_init_90 : decode cX10_init 90 = .ok (.putfield 40, 3) := by decide +kernel
theorem dX10_init_93 : decode cX10_init 93 = .ok (.aload_n 0, 1) := by decide +kernel
theorem dX10_init_94 : decode cX10_init 94 = .ok (.aload_n 1, 1) := by decide +kernel
theorem dX10_init_95 : decode cX10_init 95 = .ok (.putfield 43, 3) := by decide +kernel
theorem dX10_init_98 : decode cX10_init 98 = .ok (.aload_n 0, 1) := by decide +kernel
theorem dX10_init_99 : decode cX10_init 99 = .ok (.aload_n 2, 1) := by decide +kernel
theorem dX10_init_100 : decode cX10_init 100 = .ok (.putfield 47, 3) := by decide +kernel
theorem dX10_init_103 : decode cX10_init 103 = .ok (.aload_n 0, 1) := by decide +kernel
theorem dX10_init_104 : decode cX10_init 104 = .ok (.aload_n 3, 1) := by decide +kernel
theorem dX10_init_105 : decode cX10_init 105 = .ok (.putfield 51, 3) := by decide +kernel
theorem dX10_init_108 : decode cX10_init 108 = .ok (.return_, 1) := by decide +kernel
set_option maxHeartbeats 4000000 in
set_option maxRecDepth 100000 in
/-- Proc() -/
theorem c_Proc_init (l : Launch) (dC : Nat → ClassId) (dI : Nat → Nat → Nat) (h0 sz : Nat) (fs : List Value) (a1 : Int32) : Met l yX5_init (.code yX5_init cX5_init 2 none :: wP) ({ frames := 1, cells := 2, slots := 48, locals := 12 }) (va_Pc [.ref h0, .int a1] (fun U => U.heap.size = sz ∧ kJ 17 [] fs ∧ va_P (dC, dI) vwCl [(h0, .inr (5, fs))] U.heap ∧ va_K (dC, dI) vwCl [] U ∧ va_D (fun _ => True) [(h0, .inr (5, fs))])) (va_Qv (fun u : List Value => kJ 17 [] u) (fun (u : List Value) (t : State) => va_P (dC, dI) vwCl [(h0, .inr (5, u))] t.heap ∧ va_K (dC, dI) vwCl [] t ∧ va_D (va_A [(h0, .inr (5, fs))] sz) [(h0, .inr (5, u))]) (va_A [(h0, .inr (5, fs))] sz)) 2 48 (va_A [(h0, .inr (5, fs))] sz) := by
  refine Met.ofW (cc := cX5_init) (maxL := 2) (ret := none) (by decide) rfl ?_
  intro p e s m args below meth c s₁ B hml hv
  obtain ⟨rfl, hsz, hJ, hP, hK, hD0⟩ := hv
  have hx := B.exec
  have hb := B.bytes
  have hr := B.returns
  have hts := atoms_spec (ws := .code yX5_init cX5_init 2 none :: wP) B.pre
  have hown : s.vm.findClass RX5 = some m.cls := findClass_of_methodNamed B.named
  subst hsz
  have hD := hD0.self (sz := s.heap.size)
  generalize hAe : va_A [(h0, .inr (5, fs))] s.heap.size = A at hD ⊢
  have hA : ∀ q : Nat, s.heap.size ≤ q → A q := fun q h => by rw [← hAe]; exact Or.inr h
  have hS : va_S A s.heap s.heap [] := va_S.rf
  have hl := lv_entry ([.ref h0, .int a1]) (n := 2) (Nat.le_of_ble_eq_true rfl)
  rw [lg_entry_eq]
  generalize (lg_sl ([.ref h0, .int a1]) ++ List.replicate (2 - (lg_sl ([.ref h0, .int a1])).length) Slot.unset).toArray = ls at hl ⊢
  obtain ⟨H, hHe⟩ : ∃ H, H = s.heap := ⟨_, rfl⟩
  rw [← hHe] at hP ⊢
  have hS : va_S A s.heap H [] := by rw [hHe]; exact hS
  have hin2 : meth.name = "<init>" := (name_of_methodNamed B.named B.method).1
  have hl : lv_has ls 2 [(0, .ref h0), (1, .int a1)] := hl
  refine lv_aload_n hx hb dX5_init_0 rfl (lv_at hl 0 rfl) ?_
  refine W.objInit hx hb hown (hts _ (bP 207 rfl)) (hts _ (bP 1 rfl)) (hts _ (bP 2 rfl)) rfl (by rw [hml]; exact hl.1) rfl dX5_init_1 (Nat.le_of_ble_eq_true rfl) (Nat.le_of_ble_eq_true rfl) ?_
  refine W.eq (g2 := F0 m 4 ls []) rfl ?_
  refine lv_aload_n hx hb dX5_init_4 rfl (lv_at hl 0 rfl) ?_
  refine lv_bipush (v := 16) hx hb dX5_init_5 (by decide) ?_
  refine k_newa (N' := 16) hx hb (hts _ (bP 7 rfl)) hP hD hS (by decide) (by decide) (by decide) (Nat.le_of_ble_eq_true rfl) (Nat.le_of_ble_eq_true rfl) dX5_init_7 (fun n1 H hP hD hS => ?_)
  refine kq_put [] hts iX5 tyX5 tyX5_ok nmX5 hx hb hown hK hP hD hS 0 rfl rfl hJ 11 (by decide) (by decide) (hts _ (bP 208 rfl)) rfl (ty := .array .int) (by decide +kernel) (v := .ref n1) rfl rfl dX5_init_9 (fun f h => kJ_set h _ _ rfl) (fun H locs fs hJ hP hD hS => ?_)
  have hP : va_P (dC, dI) vwCl [(h0, .inr (5, fs))] H := hP
  have hD : va_D A [(h0, .inr (5, fs))] := hD
  refine lv_aload_n hx hb dX5_init_12 rfl (lv_at hl 0 rfl) ?_
  refine lv_bipush (v := 32) hx hb dX5_init_13 (by decide) ?_
  refine k_newa (N' := 32) hx hb (hts _ (bP 7 rfl)) hP hD hS (by decide) (by decide) (by decide) (Nat.le_of_ble_eq_true rfl) (Nat.le_of_ble_eq_true rfl) dX5_init_15 (fun n2 H hP hD hS => ?_)
  refine kq_putF [] hts iX5 tyX5 tyX5_ok nmX5 hx hb hown hin2 hK hP hD hS 0 rfl rfl hJ 15 (by decide) (by decide) rfl (hts _ (bP 209 rfl)) rfl (ty := .array .int) (by decide +kernel) (v := .ref n2) rfl rfl dX5_init_17 (fun f h => kJ_set h _ _ rfl) (fun H locs fs hJ hP hD hS => ?_)
  have hP : va_P (dC, dI) vwCl [(h0, .inr (5, fs))] H := hP
  have hD : va_D A [(h0, .inr (5, fs))] := hD
  refine lv_aload_n hx hb dX5_init_20 rfl (lv_at hl 0 rfl) ?_
  refine lv_iload_n hx hb dX5_init_21 rfl (lv_at hl 1 rfl) ?_
  refine kq_putF [(0, .int a1)] hts iX5 tyX5 tyX5_ok nmX5 hx hb hown hin2 hK hP hD hS 0 rfl rfl hJ 0 (by decide) (by decide) rfl (hts _ (bP 210 rfl)) rfl (ty := .int) (by decide +kernel) (v := .int a1) rfl rfl dX5_init_22 (fun f h => kJ_put h _ _ (by decide)) (fun H locs fs hJ hP hD hS => ?_)
  have hP : va_P (dC, dI) vwCl [(h0, .inr (5, fs))] H := hP
  have hD : va_D A [(h0, .inr (5, fs))] := hD
  refine W.widen (k := 2) (n := 48) (Nat.le_of_ble_eq_true rfl) (Nat.le_of_ble_eq_true rfl) ?_
  exact W.vret hx hb hr (fun t ht hW => ⟨⟨fs, rfl, kJ_sub hJ (by simp), by rw [ht]; exact hP, va_K.moved hW.alike hK, hD⟩, hS.F ht⟩) hS.2.2 dX5_init_25
set_option maxHeartbeats 4000000 in
set_option maxRecDepth 100000 in
/-- Heap() -/
theorem c_Heap_init (l : Launch) (dC : Nat → ClassId) (dI : Nat → Nat → Nat) (h0 sz : Nat) (fs : List Value) : Met l yX2_init (.code yX2_init cX2_init 1 none :: wP) ({ frames := 1, cells := 7, slots := 7168, locals := 12 }) (va_Pc [.ref h0] (fun U => U.heap.size = sz ∧ kJ 13 [] fs ∧ va_P (dC, dI) vwCl [(h0, .inr (2, fs))] U.heap ∧ va_K (dC, dI) vwCl [] U ∧ va_D (fun _ => True) [(h0, .inr (2, fs))])) (va_Qv (fun _ : Unit => True) (fun (_ : Unit) (_ : State) => True) (va_A [(h0, .inr (2, fs))] sz)) 7 7168 (va_A [(h0, .inr (2, fs))] sz) := by
  refine Met.ofW (cc := cX2_init) (maxL := 1) (ret := none) (by decide) rfl ?_
  intro p e s m args below meth c s₁ B hml hv
  obtain ⟨rfl, hsz, hJ, hP, hK, hD0⟩ := hv
  have hx := B.exec
  have hb := B.bytes
  have hr := B.returns
  have hts := atoms_spec (ws := .code yX2_init cX2_init 1 none :: wP) B.pre
  have hown : s.vm.findClass RX2 = some m.cls := findClass_of_methodNamed B.named
  subst hsz
  have hD := hD0.self (sz := s.heap.size)
  generalize hAe : va_A [(h0, .inr (2, fs))] s.heap.size = A at hD ⊢
  have hA : ∀ q : Nat, s.heap.size ≤ q → A q := fun q h => by rw [← hAe]; exact Or.inr h
  have hS : va_S A s.heap s.heap [] := va_S.rf
  have hl := lv_entry ([.ref h0]) (n := 1) (Nat.le_of_ble_eq_true rfl)
  rw [lg_entry_eq]
  generalize (lg_sl ([.ref h0]) ++ List.replicate (1 - (lg_sl ([.ref h0])).length) Slot.unset).toArray = ls at hl ⊢
  obtain ⟨H, hHe⟩ : ∃ H, H = s.heap := ⟨_, rfl⟩
  rw [← hHe] at hP ⊢
  have hS : va_S A s.heap H [] := by rw [hHe]; exact hS
  have hin2 : meth.name = "<init>" := (name_of_methodNamed B.named B.method).1
  have hl : lv_has ls 1 [(0, .ref h0)] := hl
  refine lv_aload_n hx hb dX2_init_0 rfl (lv_at hl 0 rfl) ?_
  refine W.objInit hx hb hown (hts _ (bP 212 rfl)) (hts _ (bP 1 rfl)) (hts _ (bP 2 rfl)) rfl (by rw [hml]; exact hl.1) rfl dX2_init_1 (Nat.le_of_ble_eq_true rfl) (Nat.le_of_ble_eq_true rfl) ?_
  refine W.eq (g2 := F0 m 4 ls []) rfl ?_
  refine lv_aload_n hx hb dX2_init_4 rfl (lv_at hl 0 rfl) ?_
  refine lv_sipush (v := 4096) hx hb dX2_init_5 (by decide) ?_
  refine k_newa (N' := 4096) hx hb (hts _ (bP 7 rfl)) hP hD hS (by decide) (by decide) (by decide) (Nat.le_of_ble_eq_true rfl) (Nat.le_of_ble_eq_true rfl) dX2_init_8 (fun n1 H hP hD hS => ?_)
  refine kq_put [] hts iX2 tyX2 tyX2_ok nmX2 hx hb hown hK hP hD hS 0 rfl rfl hJ 1 (by decide) (by decide) (hts _ (bP 213 rfl)) rfl (ty := .array .int) (by decide +kernel) (v := .ref n1) rfl rfl dX2_init_10 (fun f h => kJ_set h _ _ rfl) (fun H locs fs hJ hP hD hS => ?_)
  have hP : va_P (dC, dI) vwCl [(h0, .inr (2, fs))] H := hP
  have hD : va_D A [(h0, .inr (2, fs))] := hD
  refine lv_aload_n hx hb dX2_init_13 rfl (lv_at hl 0 rfl) ?_
  refine lv_sipush (v := 512) hx hb dX2_init_14 (by decide) ?_
  refine k_newa (N' := 512) hx hb (hts _ (bP 7 rfl)) hP hD hS (by decide) (by decide) (by decide) (Nat.le_of_ble_eq_true rfl) (Nat.le_of_ble_eq_true rfl) dX2_init_17 (fun n2 H hP hD hS => ?_)
  refine kq_put [] hts iX2 tyX2 tyX2_ok nmX2 hx hb hown hK hP hD hS 0 rfl rfl hJ 2 (by decide) (by decide) (hts _ (bP 214 rfl)) rfl (ty := .array .int) (by decide +kernel) (v := .ref n2) rfl rfl dX2_init_19 (fun f h => kJ_set h _ _ rfl) (fun H locs fs hJ hP hD hS => ?_)
  have hP : va_P (dC, dI) vwCl [(h0, .inr (2, fs))] H := hP
  have hD : va_D A [(h0, .inr (2, fs))] := hD
  refine lv_aload_n hx hb dX2_init_22 rfl (lv_at hl 0 rfl) ?_
  refine lv_sipush (v := 512) hx hb dX2_init_23 (by decide) ?_
  refine k_newa (N' := 512) hx hb (hts _ (bP 7 rfl)) hP hD hS (by decide) (by decide) (by decide) (Nat.le_of_ble_eq_true rfl) (Nat.le_of_ble_eq_true rfl) dX2_init_26 (fun n3 H hP hD hS => ?_)
  refine kq_put [] hts iX2 tyX2 tyX2_ok nmX2 hx hb hown hK hP hD hS 0 rfl rfl hJ 3 (by decide) (by decide) (hts _ (bP 215 rfl)) rfl (ty := .array .int) (by decide +kernel) (v := .ref n3) rfl rfl dX2_init_28 (fun f h => kJ_set h _ _ rfl) (fun H locs fs hJ hP hD hS => ?_)
  have hP : va_P (dC, dI) vwCl [(h0, .inr (2, fs))] H := hP
  have hD : va_D A [(h0, .inr (2, fs))] := hD
  refine lv_aload_n hx hb dX2_init_31 rfl (lv_at hl 0 rfl) ?_
  refine lv_sipush (v := 512) hx hb dX2_init_32 (by decide) ?_
  refine k_newa (N' := 512) hx hb (hts _ (bP 7 rfl)) hP hD hS (by decide) (by decide) (by decide) (Nat.le_of_ble_eq_true rfl) (Nat.le_of_ble_eq_true rfl) dX2_init_35 (fun n4 H hP hD hS => ?_)
  refine kq_put [] hts iX2 tyX2 tyX2_ok nmX2 hx hb hown hK hP hD hS 0 rfl rfl hJ 4 (by decide) (by decide) (hts _ (bP 216 rfl)) rfl (ty := .array .int) (by decide +kernel) (v := .ref n4) rfl rfl dX2_init_37 (fun f h => kJ_set h _ _ rfl) (fun H locs fs hJ hP hD hS => ?_)
  have hP : va_P (dC, dI) vwCl [(h0, .inr (2, fs))] H := hP
  have hD : va_D A [(h0, .inr (2, fs))] := hD
  refine lv_aload_n hx hb dX2_init_40 rfl (lv_at hl 0 rfl) ?_
  refine lv_sipush (v := 512) hx hb dX2_init_41 (by decide) ?_
  refine k_newa (N' := 512) hx hb (hts _ (bP 7 rfl)) hP hD hS (by decide) (by decide) (by decide) (Nat.le_of_ble_eq_true rfl) (Nat.le_of_ble_eq_true rfl) dX2_init_44 (fun n5 H hP hD hS => ?_)
  refine kq_put [] hts iX2 tyX2 tyX2_ok nmX2 hx hb hown hK hP hD hS 0 rfl rfl hJ 5 (by decide) (by decide) (hts _ (bP 217 rfl)) rfl (ty := .array .int) (by decide +kernel) (v := .ref n5) rfl rfl dX2_init_46 (fun f h => kJ_set h _ _ rfl) (fun H locs fs hJ hP hD hS => ?_)
  have hP : va_P (dC, dI) vwCl [(h0, .inr (2, fs))] H := hP
  have hD : va_D A [(h0, .inr (2, fs))] := hD
  refine lv_aload_n hx hb dX2_init_49 rfl (lv_at hl 0 rfl) ?_
  refine lv_sipush (v := 512) hx hb dX2_init_50 (by decide) ?_
  refine k_newa (N' := 512) hx hb (hts _ (bP 7 rfl)) hP hD hS (by decide) (by decide) (by decide) (Nat.le_of_ble_eq_true rfl) (Nat.le_of_ble_eq_true rfl) dX2_init_53 (fun n6 H hP hD hS => ?_)
  refine kq_put [] hts iX2 tyX2 tyX2_ok nmX2 hx hb hown hK hP hD hS 0 rfl rfl hJ 6 (by decide) (by decide) (hts _ (bP 218 rfl)) rfl (ty := .array .int) (by decide +kernel) (v := .ref n6) rfl rfl dX2_init_55 (fun f h => kJ_set h _ _ rfl) (fun H locs fs hJ hP hD hS => ?_)
  have hP : va_P (dC, dI) vwCl [(h0, .inr (2, fs))] H := hP
  have hD : va_D A [(h0, .inr (2, fs))] := hD
  refine lv_aload_n hx hb dX2_init_58 rfl (lv_at hl 0 rfl) ?_
  refine lv_sipush (v := 512) hx hb dX2_init_59 (by decide) ?_
  refine k_newa (N' := 512) hx hb (hts _ (bP 7 rfl)) hP hD hS (by decide) (by decide) (by decide) (Nat.le_of_ble_eq_true rfl) (Nat.le_of_ble_eq_true rfl) dX2_init_62 (fun n7 H hP hD hS => ?_)
  refine kq_put [] hts iX2 tyX2 tyX2_ok nmX2 hx hb hown hK hP hD hS 0 rfl rfl hJ 7 (by decide) (by decide) (hts _ (bP 219 rfl)) rfl (ty := .array .int) (by decide +kernel) (v := .ref n7) rfl rfl dX2_init_64 (fun f h => kJ_set h _ _ rfl) (fun H locs fs hJ hP hD hS => ?_)
  have hP : va_P (dC, dI) vwCl [(h0, .inr (2, fs))] H := hP
  have hD : va_D A [(h0, .inr (2, fs))] := hD
  refine W.widen (k := 7) (n := 7168) (Nat.le_of_ble_eq_true rfl) (Nat.le_of_ble_eq_true rfl) ?_
  exact W.vret hx hb hr (fun t ht hW => ⟨⟨(), rfl, trivial, trivial⟩, hS.F ht⟩) hS.2.2 dX2_init_67
set_option maxHeartbeats 4000000 in
set_option maxRecDepth 100000 in
/-- Names() -/
theorem c_Names_init (l : Launch) (dC : Nat → ClassId) (dI : Nat → Nat → Nat) (h0 sz : Nat) (fs : List Value) (a1 : Nat) : Met l yX4_init (.code yX4_init cX4_init 2 none :: wP) ({ frames := 1, cells := 12, slots := 37300, locals := 12 }) (va_Pc [.ref h0, .ref a1] (fun U => U.heap.size = sz ∧ kJ 16 [] fs ∧ va_P (dC, dI) vwCl [(h0, .inr (4, fs))] U.heap ∧ va_K (dC, dI) vwCl [] U ∧ va_D (fun _ => True) [(h0, .inr (4, fs))])) (va_Qv (fun _ : Unit => True) (fun (_ : Unit) (_ : State) => True) (va_A [(h0, .inr (4, fs))] sz)) 12 37300 (va_A [(h0, .inr (4, fs))] sz) := by
  refine Met.ofW (cc := cX4_init) (maxL := 2) (ret := none) (by decide) rfl ?_
  intro p e s m args below meth c s₁ B hml hv
  obtain ⟨rfl, hsz, hJ, hP, hK, hD0⟩ := hv
  have hx := B.exec
  have hb := B.bytes
  have hr := B.returns
  have hts := atoms_spec (ws := .code yX4_init cX4_init 2 none :: wP) B.pre
  have hown : s.vm.findClass RX4 = some m.cls := findClass_of_methodNamed B.named
  subst hsz
  have hD := hD0.self (sz := s.heap.size)
  generalize hAe : va_A [(h0, .inr (4, fs))] s.heap.size = A at hD ⊢
  have hA : ∀ q : Nat, s.heap.size ≤ q → A q := fun q h => by rw [← hAe]; exact Or.inr h
  have hS : va_S A s.heap s.heap [] := va_S.rf
  have hl := lv_entry ([.ref h0, .ref a1]) (n := 2) (Nat.le_of_ble_eq_true rfl)
  rw [lg_entry_eq]
  generalize (lg_sl ([.ref h0, .ref a1]) ++ List.replicate (2 - (lg_sl ([.ref h0, .ref a1])).length) Slot.unset).toArray = ls at hl ⊢
  obtain ⟨H, hHe⟩ : ∃ H, H = s.heap := ⟨_, rfl⟩
  rw [← hHe] at hP ⊢
  have hS : va_S A s.heap H [] := by rw [hHe]; exact hS
  have hin2 : meth.name = "<init>" := (name_of_methodNamed B.named B.method).1
  have hl : lv_has ls 2 [(0, .ref h0), (1, .ref a1)] := hl
  refine lv_aload_n hx hb dX4_init_0 rfl (lv_at hl 0 rfl) ?_
  refine W.objInit hx hb hown (hts _ (bP 221 rfl)) (hts _ (bP 1 rfl)) (hts _ (bP 2 rfl)) rfl (by rw [hml]; exact hl.1) rfl dX4_init_1 (Nat.le_of_ble_eq_true rfl) (Nat.le_of_ble_eq_true rfl) ?_
  refine W.eq (g2 := F0 m 4 ls []) rfl ?_
  refine lv_aload_n hx hb dX4_init_4 rfl (lv_at hl 0 rfl) ?_
  refine lv_sipush (v := 3100) hx hb dX4_init_5 (by decide) ?_
  refine k_newa (N' := 3100) hx hb (hts _ (bP 7 rfl)) hP hD hS (by decide) (by decide) (by decide) (Nat.le_of_ble_eq_true rfl) (Nat.le_of_ble_eq_true rfl) dX4_init_8 (fun n1 H hP hD hS => ?_)
  refine kq_putF [] hts iX4 tyX4 tyX4_ok nmX4 hx hb hown hin2 hK hP hD hS 0 rfl rfl hJ 0 (by decide) (by decide) rfl (hts _ (bP 222 rfl)) rfl (ty := .array .int) (by decide +kernel) (v := .ref n1) rfl rfl dX4_init_10 (fun f h => kJ_set h _ _ rfl) (fun H locs fs hJ hP hD hS => ?_)
  have hP : va_P (dC, dI) vwCl [(h0, .inr (4, fs))] H := hP
  have hD : va_D A [(h0, .inr (4, fs))] := hD
  refine lv_aload_n hx hb dX4_init_13 rfl (lv_at hl 0 rfl) ?_
  refine lv_sipush (v := 3100) hx hb dX4_init_14 (by decide) ?_
  refine k_newa (N' := 3100) hx hb (hts _ (bP 7 rfl)) hP hD hS (by decide) (by decide) (by decide) (Nat.le_of_ble_eq_true rfl) (Nat.le_of_ble_eq_true rfl) dX4_init_17 (fun n2 H hP hD hS => ?_)
  refine kq_putF [] hts iX4 tyX4 tyX4_ok nmX4 hx hb hown hin2 hK hP hD hS 0 rfl rfl hJ 1 (by decide) (by decide) rfl (hts _ (bP 223 rfl)) rfl (ty := .array .int) (by decide +kernel) (v := .ref n2) rfl rfl dX4_init_19 (fun f h => kJ_set h _ _ rfl) (fun H locs fs hJ hP hD hS => ?_)
  have hP : va_P (dC, dI) vwCl [(h0, .inr (4, fs))] H := hP
  have hD : va_D A [(h0, .inr (4, fs))] := hD
  refine lv_aload_n hx hb dX4_init_22 rfl (lv_at hl 0 rfl) ?_
  refine lv_sipush (v := 3100) hx hb dX4_init_23 (by decide) ?_
  refine k_newa (N' := 3100) hx hb (hts _ (bP 7 rfl)) hP hD hS (by decide) (by decide) (by decide) (Nat.le_of_ble_eq_true rfl) (Nat.le_of_ble_eq_true rfl) dX4_init_26 (fun n3 H hP hD hS => ?_)
  refine kq_putF [] hts iX4 tyX4 tyX4_ok nmX4 hx hb hown hin2 hK hP hD hS 0 rfl rfl hJ 2 (by decide) (by decide) rfl (hts _ (bP 224 rfl)) rfl (ty := .array .int) (by decide +kernel) (v := .ref n3) rfl rfl dX4_init_28 (fun f h => kJ_set h _ _ rfl) (fun H locs fs hJ hP hD hS => ?_)
  have hP : va_P (dC, dI) vwCl [(h0, .inr (4, fs))] H := hP
  have hD : va_D A [(h0, .inr (4, fs))] := hD
  refine lv_aload_n hx hb dX4_init_31 rfl (lv_at hl 0 rfl) ?_
  refine lv_sipush (v := 3100) hx hb dX4_init_32 (by decide) ?_
  refine k_newa (N' := 3100) hx hb (hts _ (bP 7 rfl)) hP hD hS (by decide) (by decide) (by decide) (Nat.le_of_ble_eq_true rfl) (Nat.le_of_ble_eq_true rfl) dX4_init_35 (fun n4 H hP hD hS => ?_)
  refine kq_putF [] hts iX4 tyX4 tyX4_ok nmX4 hx hb hown hin2 hK hP hD hS 0 rfl rfl hJ 3 (by decide) (by decide) rfl (hts _ (bP 225 rfl)) rfl (ty := .array .int) (by decide +kernel) (v := .ref n4) rfl rfl dX4_init_37 (fun f h => kJ_set h _ _ rfl) (fun H locs fs hJ hP hD hS => ?_)
  have hP : va_P (dC, dI) vwCl [(h0, .inr (4, fs))] H := hP
  have hD : va_D A [(h0, .inr (4, fs))] := hD
  refine lv_aload_n hx hb dX4_init_40 rfl (lv_at hl 0 rfl) ?_
  refine lv_sipush (v := 3100) hx hb dX4_init_41 (by decide) ?_
  refine k_newa (N' := 3100) hx hb (hts _ (bP 7 rfl)) hP hD hS (by decide) (by decide) (by decide) (Nat.le_of_ble_eq_true rfl) (Nat.le_of_ble_eq_true rfl) dX4_init_44 (fun n5 H hP hD hS => ?_)
  refine kq_putF [] hts iX4 tyX4 tyX4_ok nmX4 hx hb hown hin2 hK hP hD hS 0 rfl rfl hJ 4 (by decide) (by decide) rfl (hts _ (bP 226 rfl)) rfl (ty := .array .int) (by decide +kernel) (v := .ref n5) rfl rfl dX4_init_46 (fun f h => kJ_set h _ _ rfl) (fun H locs fs hJ hP hD hS => ?_)
  have hP : va_P (dC, dI) vwCl [(h0, .inr (4, fs))] H := hP
  have hD : va_D A [(h0, .inr (4, fs))] := hD
  refine lv_aload_n hx hb dX4_init_49 rfl (lv_at hl 0 rfl) ?_
  refine lv_sipush (v := 3100) hx hb dX4_init_50 (by decide) ?_
  refine k_newa (N' := 3100) hx hb (hts _ (bP 7 rfl)) hP hD hS (by decide) (by decide) (by decide) (Nat.le_of_ble_eq_true rfl) (Nat.le_of_ble_eq_true rfl) dX4_init_53 (fun n6 H hP hD hS => ?_)
  refine kq_putF [] hts iX4 tyX4 tyX4_ok nmX4 hx hb hown hin2 hK hP hD hS 0 rfl rfl hJ 5 (by decide) (by decide) rfl (hts _ (bP 227 rfl)) rfl (ty := .array .int) (by decide +kernel) (v := .ref n6) rfl rfl dX4_init_55 (fun f h => kJ_set h _ _ rfl) (fun H locs fs hJ hP hD hS => ?_)
  have hP : va_P (dC, dI) vwCl [(h0, .inr (4, fs))] H := hP
  have hD : va_D A [(h0, .inr (4, fs))] := hD
  refine lv_aload_n hx hb dX4_init_58 rfl (lv_at hl 0 rfl) ?_
  refine lv_sipush (v := 3100) hx hb dX4_init_59 (by decide) ?_
  refine k_newa (N' := 3100) hx hb (hts _ (bP 7 rfl)) hP hD hS (by decide) (by decide) (by decide) (Nat.le_of_ble_eq_true rfl) (Nat.le_of_ble_eq_true rfl) dX4_init_62 (fun n7 H hP hD hS => ?_)
  refine kq_putF [] hts iX4 tyX4 tyX4_ok nmX4 hx hb hown hin2 hK hP hD hS 0 rfl rfl hJ 6 (by decide) (by decide) rfl (hts _ (bP 228 rfl)) rfl (ty := .array .int) (by decide +kernel) (v := .ref n7) rfl rfl dX4_init_64 (fun f h => kJ_set h _ _ rfl) (fun H locs fs hJ hP hD hS => ?_)
  have hP : va_P (dC, dI) vwCl [(h0, .inr (4, fs))] H := hP
  have hD : va_D A [(h0, .inr (4, fs))] := hD
  refine lv_aload_n hx hb dX4_init_67 rfl (lv_at hl 0 rfl) ?_
  refine lv_sipush (v := 3100) hx hb dX4_init_68 (by decide) ?_
  refine k_newa (N' := 3100) hx hb (hts _ (bP 7 rfl)) hP hD hS (by decide) (by decide) (by decide) (Nat.le_of_ble_eq_true rfl) (Nat.le_of_ble_eq_true rfl) dX4_init_71 (fun n8 H hP hD hS => ?_)
  refine kq_putF [] hts iX4 tyX4 tyX4_ok nmX4 hx hb hown hin2 hK hP hD hS 0 rfl rfl hJ 9 (by decide) (by decide) rfl (hts _ (bP 229 rfl)) rfl (ty := .array .int) (by decide +kernel) (v := .ref n8) rfl rfl dX4_init_73 (fun f h => kJ_set h _ _ rfl) (fun H locs fs hJ hP hD hS => ?_)
  have hP : va_P (dC, dI) vwCl [(h0, .inr (4, fs))] H := hP
  have hD : va_D A [(h0, .inr (4, fs))] := hD
  refine lv_aload_n hx hb dX4_init_76 rfl (lv_at hl 0 rfl) ?_
  refine lv_sipush (v := 3100) hx hb dX4_init_77 (by decide) ?_
  refine k_newa (N' := 3100) hx hb (hts _ (bP 7 rfl)) hP hD hS (by decide) (by decide) (by decide) (Nat.le_of_ble_eq_true rfl) (Nat.le_of_ble_eq_true rfl) dX4_init_80 (fun n9 H hP hD hS => ?_)
  refine kq_putF [] hts iX4 tyX4 tyX4_ok nmX4 hx hb hown hin2 hK hP hD hS 0 rfl rfl hJ 10 (by decide) (by decide) rfl (hts _ (bP 230 rfl)) rfl (ty := .array .int) (by decide +kernel) (v := .ref n9) rfl rfl dX4_init_82 (fun f h => kJ_set h _ _ rfl) (fun H locs fs hJ hP hD hS => ?_)
  have hP : va_P (dC, dI) vwCl [(h0, .inr (4, fs))] H := hP
  have hD : va_D A [(h0, .inr (4, fs))] := hD
  refine lv_aload_n hx hb dX4_init_85 rfl (lv_at hl 0 rfl) ?_
  refine lv_sipush (v := 3150) hx hb dX4_init_86 (by decide) ?_
  refine k_newa (N' := 3150) hx hb (hts _ (bP 7 rfl)) hP hD hS (by decide) (by decide) (by decide) (Nat.le_of_ble_eq_true rfl) (Nat.le_of_ble_eq_true rfl) dX4_init_89 (fun n10 H hP hD hS => ?_)
  refine kq_putF [] hts iX4 tyX4 tyX4_ok nmX4 hx hb hown hin2 hK hP hD hS 0 rfl rfl hJ 11 (by decide) (by decide) rfl (hts _ (bP 231 rfl)) rfl (ty := .array .int) (by decide +kernel) (v := .ref n10) rfl rfl dX4_init_91 (fun f h => kJ_set h _ _ rfl) (fun H locs fs hJ hP hD hS => ?_)
  have hP : va_P (dC, dI) vwCl [(h0, .inr (4, fs))] H := hP
  have hD : va_D A [(h0, .inr (4, fs))] := hD
  refine lv_aload_n hx hb dX4_init_94 rfl (lv_at hl 0 rfl) ?_
  refine lv_sipush (v := 3150) hx hb dX4_init_95 (by decide) ?_
  refine k_newa (N' := 3150) hx hb (hts _ (bP 7 rfl)) hP hD hS (by decide) (by decide) (by decide) (Nat.le_of_ble_eq_true rfl) (Nat.le_of_ble_eq_true rfl) dX4_init_98 (fun n11 H hP hD hS => ?_)
  refine kq_putF [] hts iX4 tyX4 tyX4_ok nmX4 hx hb hown hin2 hK hP hD hS 0 rfl rfl hJ 12 (by decide) (by decide) rfl (hts _ (bP 232 rfl)) rfl (ty := .array .int) (by decide +kernel) (v := .ref n11) rfl rfl dX4_init_100 (fun f h => kJ_set h _ _ rfl) (fun H locs fs hJ hP hD hS => ?_)
  have hP : va_P (dC, dI) vwCl [(h0, .inr (4, fs))] H := hP
  have hD : va_D A [(h0, .inr (4, fs))] := hD
  refine lv_aload_n hx hb dX4_init_103 rfl (lv_at hl 0 rfl) ?_
  refine lv_sipush (v := 3100) hx hb dX4_init_104 (by decide) ?_
  refine k_newa (N' := 3100) hx hb (hts _ (bP 7 rfl)) hP hD hS (by decide) (by decide) (by decide) (Nat.le_of_ble_eq_true rfl) (Nat.le_of_ble_eq_true rfl) dX4_init_107 (fun n12 H hP hD hS => ?_)
  refine kq_putF [] hts iX4 tyX4 tyX4_ok nmX4 hx hb hown hin2 hK hP hD hS 0 rfl rfl hJ 13 (by decide) (by decide) rfl (hts _ (bP 233 rfl)) rfl (ty := .array .int) (by decide +kernel) (v := .ref n12) rfl rfl dX4_init_109 (fun f h => kJ_set h _ _ rfl) (fun H locs fs hJ hP hD hS => ?_)
  have hP : va_P (dC, dI) vwCl [(h0, .inr (4, fs))] H := hP
  have hD : va_D A [(h0, .inr (4, fs))] := hD
  refine lv_aload_n hx hb dX4_init_112 rfl (lv_at hl 0 rfl) ?_
  refine lv_aload_n hx hb dX4_init_113 rfl (lv_at hl 1 rfl) ?_
  refine kq_putF [] hts iX4 tyX4 tyX4_ok nmX4 hx hb hown hin2 hK hP hD hS 0 rfl rfl hJ 8 (by decide) (by decide) rfl (hts _ (bP 234 rfl)) rfl (ty := .object "MeetingHouse$Tree") (by decide +kernel) (v := .ref a1) rfl rfl dX4_init_114 (fun f h => kJ_set h _ _ rfl) (fun H locs fs hJ hP hD hS => ?_)
  have hP : va_P (dC, dI) vwCl [(h0, .inr (4, fs))] H := hP
  have hD : va_D A [(h0, .inr (4, fs))] := hD
  refine W.widen (k := 12) (n := 37300) (Nat.le_of_ble_eq_true rfl) (Nat.le_of_ble_eq_true rfl) ?_
  exact W.vret hx hb hr (fun t ht hW => ⟨⟨(), rfl, trivial, trivial⟩, hS.F ht⟩) hS.2.2 dX4_init_117
set_option maxHeartbeats 4000000 in
set_option maxRecDepth 100000 in
/-- Types() -/
theorem c_Types_init (l : Launch) (dC : Nat → ClassId) (dI : Nat → Nat → Nat) (h0 sz : Nat) (fs : List Value) (a1 : Nat) (a2 : Nat) : Met l yX9_init (.code yX9_init cX9_init 3 none :: wP) ({ frames := 1, cells := 1, slots := 3100, locals := 12 }) (va_Pc [.ref h0, .ref a1, .ref a2] (fun U => U.heap.size = sz ∧ kJ 6 [] fs ∧ va_P (dC, dI) vwCl [(h0, .inr (9, fs))] U.heap ∧ va_K (dC, dI) vwCl [] U ∧ va_D (fun _ => True) [(h0, .inr (9, fs))])) (va_Qv (fun _ : Unit => True) (fun (_ : Unit) (_ : State) => True) (va_A [(h0, .inr (9, fs))] sz)) 1 3100 (va_A [(h0, .inr (9, fs))] sz) := by
  refine Met.ofW (cc := cX9_init) (maxL := 3) (ret := none) (by decide) rfl ?_
  intro p e s m args below meth c s₁ B hml hv
  obtain ⟨rfl, hsz, hJ, hP, hK, hD0⟩ := hv
  have hx := B.exec
  have hb := B.bytes
  have hr := B.returns
  have hts := atoms_spec (ws := .code yX9_init cX9_init 3 none :: wP) B.pre
  have hown : s.vm.findClass RX9 = some m.cls := findClass_of_methodNamed B.named
  subst hsz
  have hD := hD0.self (sz := s.heap.size)
  generalize hAe : va_A [(h0, .inr (9, fs))] s.heap.size = A at hD ⊢
  have hA : ∀ q : Nat, s.heap.size ≤ q → A q := fun q h => by rw [← hAe]; exact Or.inr h
  have hS : va_S A s.heap s.heap [] := va_S.rf
  have hl := lv_entry ([.ref h0, .ref a1, .ref a2]) (n := 3) (Nat.le_of_ble_eq_true rfl)
  rw [lg_entry_eq]
  generalize (lg_sl ([.ref h0, .ref a1, .ref a2]) ++ List.replicate (3 - (lg_sl ([.ref h0, .ref a1, .ref a2])).length) Slot.unset).toArray = ls at hl ⊢
  obtain ⟨H, hHe⟩ : ∃ H, H = s.heap := ⟨_, rfl⟩
  rw [← hHe] at hP ⊢
  have hS : va_S A s.heap H [] := by rw [hHe]; exact hS
  have hin2 : meth.name = "<init>" := (name_of_methodNamed B.named B.method).1
  have hl : lv_has ls 3 [(0, .ref h0), (1, .ref a1), (2, .ref a2)] := hl
  refine lv_aload_n hx hb dX9_init_0 rfl (lv_at hl 0 rfl) ?_
  refine W.objInit hx hb hown (hts _ (bP 236 rfl)) (hts _ (bP 1 rfl)) (hts _ (bP 2 rfl)) rfl (by rw [hml]; exact hl.1) rfl dX9_init_1 (Nat.le_of_ble_eq_true rfl) (Nat.le_of_ble_eq_true rfl) ?_
  refine W.eq (g2 := F0 m 4 ls []) rfl ?_
  refine lv_aload_n hx hb dX9_init_4 rfl (lv_at hl 0 rfl) ?_
  refine lv_sipush (v := 3100) hx hb dX9_init_5 (by decide) ?_
  refine k_newa (N' := 3100) hx hb (hts _ (bP 7 rfl)) hP hD hS (by decide) (by decide) (by decide) (Nat.le_of_ble_eq_true rfl) (Nat.le_of_ble_eq_true rfl) dX9_init_8 (fun n1 H hP hD hS => ?_)
  refine kq_putF [] hts iX9 tyX9 tyX9_ok nmX9 hx hb hown hin2 hK hP hD hS 0 rfl rfl hJ 3 (by decide) (by decide) rfl (hts _ (bP 237 rfl)) rfl (ty := .array .int) (by decide +kernel) (v := .ref n1) rfl rfl dX9_init_10 (fun f h => kJ_set h _ _ rfl) (fun H locs fs hJ hP hD hS => ?_)
  have hP : va_P (dC, dI) vwCl [(h0, .inr (9, fs))] H := hP
  have hD : va_D A [(h0, .inr (9, fs))] := hD
  refine lv_aload_n hx hb dX9_init_13 rfl (lv_at hl 0 rfl) ?_
  refine lv_aload_n hx hb dX9_init_14 rfl (lv_at hl 1 rfl) ?_
  refine kq_putF [] hts iX9 tyX9 tyX9_ok nmX9 hx hb hown hin2 hK hP hD hS 0 rfl rfl hJ 1 (by decide) (by decide) rfl (hts _ (bP 238 rfl)) rfl (ty := .object "MeetingHouse$Tree") (by decide +kernel) (v := .ref a1) rfl rfl dX9_init_15 (fun f h => kJ_set h _ _ rfl) (fun H locs fs hJ hP hD hS => ?_)
  have hP : va_P (dC, dI) vwCl [(h0, .inr (9, fs))] H := hP
  have hD : va_D A [(h0, .inr (9, fs))] := hD
  refine lv_aload_n hx hb dX9_init_18 rfl (lv_at hl 0 rfl) ?_
  refine lv_aload_n hx hb dX9_init_19 rfl (lv_at hl 2 rfl) ?_
  refine kq_putF [] hts iX9 tyX9 tyX9_ok nmX9 hx hb hown hin2 hK hP hD hS 0 rfl rfl hJ 2 (by decide) (by decide) rfl (hts _ (bP 239 rfl)) rfl (ty := .object "MeetingHouse$Names") (by decide +kernel) (v := .ref a2) rfl rfl dX9_init_20 (fun f h => kJ_set h _ _ rfl) (fun H locs fs hJ hP hD hS => ?_)
  have hP : va_P (dC, dI) vwCl [(h0, .inr (9, fs))] H := hP
  have hD : va_D A [(h0, .inr (9, fs))] := hD
  refine W.widen (k := 1) (n := 3100) (Nat.le_of_ble_eq_true rfl) (Nat.le_of_ble_eq_true rfl) ?_
  exact W.vret hx hb hr (fun t ht hW => ⟨⟨(), rfl, trivial, trivial⟩, hS.F ht⟩) hS.2.2 dX9_init_23
set_option maxHeartbeats 4000000 in
set_option maxRecDepth 100000 in
/-- Sides() -/
theorem c_Sides_init (l : Launch) (dC : Nat → ClassId) (dI : Nat → Nat → Nat) (h0 sz : Nat) (fs : List Value) (a1 : Nat) (a2 : Nat) : Met l yX6_init (.code yX6_init cX6_init 3 none :: wP) ({ frames := 1, cells := 9, slots := 92814, locals := 12 }) (va_Pc [.ref h0, .ref a1, .ref a2] (fun U => U.heap.size = sz ∧ kJ 17 [] fs ∧ va_P (dC, dI) vwCl [(h0, .inr (6, fs))] U.heap ∧ va_K (dC, dI) vwCl [] U ∧ va_D (fun _ => True) [(h0, .inr (6, fs))])) (va_Qv (fun _ : Unit => True) (fun (_ : Unit) (_ : State) => True) (va_A [(h0, .inr (6, fs))] sz)) 9 92814 (va_A [(h0, .inr (6, fs))] sz) := by
  refine Met.ofW (cc := cX6_init) (maxL := 3) (ret := none) (by decide) rfl ?_
  intro p e s m args below meth c s₁ B hml hv
  obtain ⟨rfl, hsz, hJ, hP, hK, hD0⟩ := hv
  have hx := B.exec
  have hb := B.bytes
  have hr := B.returns
  have hts := atoms_spec (ws := .code yX6_init cX6_init 3 none :: wP) B.pre
  have hown : s.vm.findClass RX6 = some m.cls := findClass_of_methodNamed B.named
  subst hsz
  have hD := hD0.self (sz := s.heap.size)
  generalize hAe : va_A [(h0, .inr (6, fs))] s.heap.size = A at hD ⊢
  have hA : ∀ q : Nat, s.heap.size ≤ q → A q := fun q h => by rw [← hAe]; exact Or.inr h
  have hS : va_S A s.heap s.heap [] := va_S.rf
  have hl := lv_entry ([.ref h0, .ref a1, .ref a2]) (n := 3) (Nat.le_of_ble_eq_true rfl)
  rw [lg_entry_eq]
  generalize (lg_sl ([.ref h0, .ref a1, .ref a2]) ++ List.replicate (3 - (lg_sl ([.ref h0, .ref a1, .ref a2])).length) Slot.unset).toArray = ls at hl ⊢
  obtain ⟨H, hHe⟩ : ∃ H, H = s.heap := ⟨_, rfl⟩
  rw [← hHe] at hP ⊢
  have hS : va_S A s.heap H [] := by rw [hHe]; exact hS
  have hin2 : meth.name = "<init>" := (name_of_methodNamed B.named B.method).1
  have hl : lv_has ls 3 [(0, .ref h0), (1, .ref a1), (2, .ref a2)] := hl
  refine lv_aload_n hx hb dX6_init_0 rfl (lv_at hl 0 rfl) ?_
  refine W.objInit hx hb hown (hts _ (bP 241 rfl)) (hts _ (bP 1 rfl)) (hts _ (bP 2 rfl)) rfl (by rw [hml]; exact hl.1) rfl dX6_init_1 (Nat.le_of_ble_eq_true rfl) (Nat.le_of_ble_eq_true rfl) ?_
  refine W.eq (g2 := F0 m 4 ls []) rfl ?_
  refine lv_aload_n hx hb dX6_init_4 rfl (lv_at hl 0 rfl) ?_
  refine lv_sipush (v := 3100) hx hb dX6_init_5 (by decide) ?_
  refine k_newa (N' := 3100) hx hb (hts _ (bP 55 rfl)) hP hD hS (by decide) (by decide) (by decide) (Nat.le_of_ble_eq_true rfl) (Nat.le_of_ble_eq_true rfl) dX6_init_8 (fun n1 H hP hD hS => ?_)
  refine kq_putF [] hts iX6 tyX6 tyX6_ok nmX6 hx hb hown hin2 hK hP hD hS 0 rfl rfl hJ 2 (by decide) (by decide) rfl (hts _ (bP 242 rfl)) rfl (ty := .array .long) (by decide +kernel) (v := .ref n1) rfl rfl dX6_init_10 (fun f h => kJ_set h _ _ rfl) (fun H locs fs hJ hP hD hS => ?_)
  have hP : va_P (dC, dI) vwCl [(h0, .inr (6, fs))] H := hP
  have hD : va_D A [(h0, .inr (6, fs))] := hD
  refine lv_aload_n hx hb dX6_init_13 rfl (lv_at hl 0 rfl) ?_
  refine lv_sipush (v := 3100) hx hb dX6_init_14 (by decide) ?_
  refine k_newa (N' := 3100) hx hb (hts _ (bP 7 rfl)) hP hD hS (by decide) (by decide) (by decide) (Nat.le_of_ble_eq_true rfl) (Nat.le_of_ble_eq_true rfl) dX6_init_17 (fun n2 H hP hD hS => ?_)
  refine kq_putF [] hts iX6 tyX6 tyX6_ok nmX6 hx hb hown hin2 hK hP hD hS 0 rfl rfl hJ 3 (by decide) (by decide) rfl (hts _ (bP 243 rfl)) rfl (ty := .array .int) (by decide +kernel) (v := .ref n2) rfl rfl dX6_init_19 (fun f h => kJ_set h _ _ rfl) (fun H locs fs hJ hP hD hS => ?_)
  have hP : va_P (dC, dI) vwCl [(h0, .inr (6, fs))] H := hP
  have hD : va_D A [(h0, .inr (6, fs))] := hD
  refine lv_aload_n hx hb dX6_init_22 rfl (lv_at hl 0 rfl) ?_
  refine lv_sipush (v := 3100) hx hb dX6_init_23 (by decide) ?_
  refine k_newa (N' := 3100) hx hb (hts _ (bP 7 rfl)) hP hD hS (by decide) (by decide) (by decide) (Nat.le_of_ble_eq_true rfl) (Nat.le_of_ble_eq_true rfl) dX6_init_26 (fun n3 H hP hD hS => ?_)
  refine kq_putF [] hts iX6 tyX6 tyX6_ok nmX6 hx hb hown hin2 hK hP hD hS 0 rfl rfl hJ 5 (by decide) (by decide) rfl (hts _ (bP 244 rfl)) rfl (ty := .array .int) (by decide +kernel) (v := .ref n3) rfl rfl dX6_init_28 (fun f h => kJ_set h _ _ rfl) (fun H locs fs hJ hP hD hS => ?_)
  have hP : va_P (dC, dI) vwCl [(h0, .inr (6, fs))] H := hP
  have hD : va_D A [(h0, .inr (6, fs))] := hD
  refine lv_aload_n hx hb dX6_init_31 rfl (lv_at hl 0 rfl) ?_
  refine lv_sipush (v := 3100) hx hb dX6_init_32 (by decide) ?_
  refine k_newa (N' := 3100) hx hb (hts _ (bP 7 rfl)) hP hD hS (by decide) (by decide) (by decide) (Nat.le_of_ble_eq_true rfl) (Nat.le_of_ble_eq_true rfl) dX6_init_35 (fun n4 H hP hD hS => ?_)
  refine kq_putF [] hts iX6 tyX6 tyX6_ok nmX6 hx hb hown hin2 hK hP hD hS 0 rfl rfl hJ 7 (by decide) (by decide) rfl (hts _ (bP 245 rfl)) rfl (ty := .array .int) (by decide +kernel) (v := .ref n4) rfl rfl dX6_init_37 (fun f h => kJ_set h _ _ rfl) (fun H locs fs hJ hP hD hS => ?_)
  have hP : va_P (dC, dI) vwCl [(h0, .inr (6, fs))] H := hP
  have hD : va_D A [(h0, .inr (6, fs))] := hD
  refine lv_aload_n hx hb dX6_init_40 rfl (lv_at hl 0 rfl) ?_
  refine lv_bipush (v := 14) hx hb dX6_init_41 (by decide) ?_
  refine k_newa (N' := 14) hx hb (hts _ (bP 7 rfl)) hP hD hS (by decide) (by decide) (by decide) (Nat.le_of_ble_eq_true rfl) (Nat.le_of_ble_eq_true rfl) dX6_init_43 (fun n5 H hP hD hS => ?_)
  refine kq_putF [] hts iX6 tyX6 tyX6_ok nmX6 hx hb hown hin2 hK hP hD hS 0 rfl rfl hJ 9 (by decide) (by decide) rfl (hts _ (bP 246 rfl)) rfl (ty := .array .int) (by decide +kernel) (v := .ref n5) rfl rfl dX6_init_45 (fun f h => kJ_set h _ _ rfl) (fun H locs fs hJ hP hD hS => ?_)
  have hP : va_P (dC, dI) vwCl [(h0, .inr (6, fs))] H := hP
  have hD : va_D A [(h0, .inr (6, fs))] := hD
  refine lv_aload_n hx hb dX6_init_48 rfl (lv_at hl 0 rfl) ?_
  refine lv_ldc hx hb hown (hts _ (bP 247 rfl)) dX6_init_49 ?_
  refine k_newa (N' := 57400) hx hb (hts _ (bP 7 rfl)) hP hD hS (by decide) (by decide) (by decide) (Nat.le_of_ble_eq_true rfl) (Nat.le_of_ble_eq_true rfl) dX6_init_51 (fun n6 H hP hD hS => ?_)
  refine kq_putF [] hts iX6 tyX6 tyX6_ok nmX6 hx hb hown hin2 hK hP hD hS 0 rfl rfl hJ 10 (by decide) (by decide) rfl (hts _ (bP 248 rfl)) rfl (ty := .array .int) (by decide +kernel) (v := .ref n6) rfl rfl dX6_init_53 (fun f h => kJ_set h _ _ rfl) (fun H locs fs hJ hP hD hS => ?_)
  have hP : va_P (dC, dI) vwCl [(h0, .inr (6, fs))] H := hP
  have hD : va_D A [(h0, .inr (6, fs))] := hD
  refine lv_aload_n hx hb dX6_init_56 rfl (lv_at hl 0 rfl) ?_
  refine lv_sipush (v := 16800) hx hb dX6_init_57 (by decide) ?_
  refine k_newa (N' := 16800) hx hb (hts _ (bP 7 rfl)) hP hD hS (by decide) (by decide) (by decide) (Nat.le_of_ble_eq_true rfl) (Nat.le_of_ble_eq_true rfl) dX6_init_60 (fun n7 H hP hD hS => ?_)
  refine kq_putF [] hts iX6 tyX6 tyX6_ok nmX6 hx hb hown hin2 hK hP hD hS 0 rfl rfl hJ 11 (by decide) (by decide) rfl (hts _ (bP 249 rfl)) rfl (ty := .array .int) (by decide +kernel) (v := .ref n7) rfl rfl dX6_init_62 (fun f h => kJ_set h _ _ rfl) (fun H locs fs hJ hP hD hS => ?_)
  have hP : va_P (dC, dI) vwCl [(h0, .inr (6, fs))] H := hP
  have hD : va_D A [(h0, .inr (6, fs))] := hD
  refine lv_aload_n hx hb dX6_init_65 rfl (lv_at hl 0 rfl) ?_
  refine lv_sipush (v := 3100) hx hb dX6_init_66 (by decide) ?_
  refine k_newa (N' := 3100) hx hb (hts _ (bP 7 rfl)) hP hD hS (by decide) (by decide) (by decide) (Nat.le_of_ble_eq_true rfl) (Nat.le_of_ble_eq_true rfl) dX6_init_69 (fun n8 H hP hD hS => ?_)
  refine kq_putF [] hts iX6 tyX6 tyX6_ok nmX6 hx hb hown hin2 hK hP hD hS 0 rfl rfl hJ 12 (by decide) (by decide) rfl (hts _ (bP 250 rfl)) rfl (ty := .array .int) (by decide +kernel) (v := .ref n8) rfl rfl dX6_init_71 (fun f h => kJ_set h _ _ rfl) (fun H locs fs hJ hP hD hS => ?_)
  have hP : va_P (dC, dI) vwCl [(h0, .inr (6, fs))] H := hP
  have hD : va_D A [(h0, .inr (6, fs))] := hD
  refine lv_aload_n hx hb dX6_init_74 rfl (lv_at hl 0 rfl) ?_
  refine lv_sipush (v := 3100) hx hb dX6_init_75 (by decide) ?_
  refine k_newa (N' := 3100) hx hb (hts _ (bP 7 rfl)) hP hD hS (by decide) (by decide) (by decide) (Nat.le_of_ble_eq_true rfl) (Nat.le_of_ble_eq_true rfl) dX6_init_78 (fun n9 H hP hD hS => ?_)
  refine kq_putF [] hts iX6 tyX6 tyX6_ok nmX6 hx hb hown hin2 hK hP hD hS 0 rfl rfl hJ 13 (by decide) (by decide) rfl (hts _ (bP 251 rfl)) rfl (ty := .array .int) (by decide +kernel) (v := .ref n9) rfl rfl dX6_init_80 (fun f h => kJ_set h _ _ rfl) (fun H locs fs hJ hP hD hS => ?_)
  have hP : va_P (dC, dI) vwCl [(h0, .inr (6, fs))] H := hP
  have hD : va_D A [(h0, .inr (6, fs))] := hD
  refine lv_aload_n hx hb dX6_init_83 rfl (lv_at hl 0 rfl) ?_
  refine lv_aload_n hx hb dX6_init_84 rfl (lv_at hl 1 rfl) ?_
  refine kq_putF [] hts iX6 tyX6 tyX6_ok nmX6 hx hb hown hin2 hK hP hD hS 0 rfl rfl hJ 0 (by decide) (by decide) rfl (hts _ (bP 252 rfl)) rfl (ty := .object "MeetingHouse$Tree") (by decide +kernel) (v := .ref a1) rfl rfl dX6_init_85 (fun f h => kJ_set h _ _ rfl) (fun H locs fs hJ hP hD hS => ?_)
  have hP : va_P (dC, dI) vwCl [(h0, .inr (6, fs))] H := hP
  have hD : va_D A [(h0, .inr (6, fs))] := hD
  refine lv_aload_n hx hb dX6_init_88 rfl (lv_at hl 0 rfl) ?_
  refine lv_aload_n hx hb dX6_init_89 rfl (lv_at hl 2 rfl) ?_
  refine kq_putF [] hts iX6 tyX6 tyX6_ok nmX6 hx hb hown hin2 hK hP hD hS 0 rfl rfl hJ 1 (by decide) (by decide) rfl (hts _ (bP 253 rfl)) rfl (ty := .object "MeetingHouse$Names") (by decide +kernel) (v := .ref a2) rfl rfl dX6_init_90 (fun f h => kJ_set h _ _ rfl) (fun H locs fs hJ hP hD hS => ?_)
  have hP : va_P (dC, dI) vwCl [(h0, .inr (6, fs))] H := hP
  have hD : va_D A [(h0, .inr (6, fs))] := hD
  refine W.widen (k := 9) (n := 92814) (Nat.le_of_ble_eq_true rfl) (Nat.le_of_ble_eq_true rfl) ?_
  exact W.vret hx hb hr (fun t ht hW => ⟨⟨(), rfl, trivial, trivial⟩, hS.F ht⟩) hS.2.2 dX6_init_93
set_option maxHeartbeats 4000000 in
set_option maxRecDepth 100000 in
/-- Uses() -/
theorem c_Uses_init (l : Launch) (dC : Nat → ClassId) (dI : Nat → Nat → Nat) (h0 sz : Nat) (fs : List Value) (a1 : Nat) (a2 : Nat) (a3 : Nat) : Met l yX10_init (.code yX10_init cX10_init 4 none :: wP) ({ frames := 1, cells := 10, slots := 95400, locals := 12 }) (va_Pc [.ref h0, .ref a1, .ref a2, .ref a3] (fun U => U.heap.size = sz ∧ kJ 19 [] fs ∧ va_P (dC, dI) vwCl [(h0, .inr (10, fs))] U.heap ∧ va_K (dC, dI) vwCl [] U ∧ va_D (fun _ => True) [(h0, .inr (10, fs))])) (va_Qv (fun _ : Unit => True) (fun (_ : Unit) (_ : State) => True) (va_A [(h0, .inr (10, fs))] sz)) 10 95400 (va_A [(h0, .inr (10, fs))] sz) := by
  refine Met.ofW (cc := cX10_init) (maxL := 4) (ret := none) (by decide) rfl ?_
  intro p e s m args below meth c s₁ B hml hv
  obtain ⟨rfl, hsz, hJ, hP, hK, hD0⟩ := hv
  have hx := B.exec
  have hb := B.bytes
  have hr := B.returns
  have hts := atoms_spec (ws := .code yX10_init cX10_init 4 none :: wP) B.pre
  have hown : s.vm.findClass RX10 = some m.cls := findClass_of_methodNamed B.named
  subst hsz
  have hD := hD0.self (sz := s.heap.size)
  generalize hAe : va_A [(h0, .inr (10, fs))] s.heap.size = A at hD ⊢
  have hA : ∀ q : Nat, s.heap.size ≤ q → A q := fun q h => by rw [← hAe]; exact Or.inr h
  have hS : va_S A s.heap s.heap [] := va_S.rf
  have hl := lv_entry ([.ref h0, .ref a1, .ref a2, .ref a3]) (n := 4) (Nat.le_of_ble_eq_true rfl)
  rw [lg_entry_eq]
  generalize (lg_sl ([.ref h0, .ref a1, .ref a2, .ref a3]) ++ List.replicate (4 - (lg_sl ([.ref h0, .ref a1, .ref a2, .ref a3])).length) Slot.unset).toArray = ls at hl ⊢
  obtain ⟨H, hHe⟩ : ∃ H, H = s.heap := ⟨_, rfl⟩
  rw [← hHe] at hP ⊢
  have hS : va_S A s.heap H [] := by rw [hHe]; exact hS
  have hin2 : meth.name = "<init>" := (name_of_methodNamed B.named B.method).1
  have hl : lv_has ls 4 [(0, .ref h0), (1, .ref a1), (2, .ref a2), (3, .ref a3)] := hl
  refine lv_aload_n hx hb dX10_init_0 rfl (lv_at hl 0 rfl) ?_
  refine W.objInit hx hb hown (hts _ (bP 255 rfl)) (hts _ (bP 1 rfl)) (hts _ (bP 2 rfl)) rfl (by rw [hml]; exact hl.1) rfl dX10_init_1 (Nat.le_of_ble_eq_true rfl) (Nat.le_of_ble_eq_true rfl) ?_
  refine W.eq (g2 := F0 m 4 ls []) rfl ?_
  refine lv_aload_n hx hb dX10_init_4 rfl (lv_at hl 0 rfl) ?_
  refine lv_sipush (v := 8200) hx hb dX10_init_5 (by decide) ?_
  refine k_newa (N' := 8200) hx hb (hts _ (bP 7 rfl)) hP hD hS (by decide) (by decide) (by decide) (Nat.le_of_ble_eq_true rfl) (Nat.le_of_ble_eq_true rfl) dX10_init_8 (fun n1 H hP hD hS => ?_)
  refine kq_putF [] hts iX10 tyX10 tyX10_ok nmX10 hx hb hown hin2 hK hP hD hS 0 rfl rfl hJ 0 (by decide) (by decide) rfl (hts _ (bP 256 rfl)) rfl (ty := .array .int) (by decide +kernel) (v := .ref n1) rfl rfl dX10_init_10 (fun f h => kJ_set h _ _ rfl) (fun H locs fs hJ hP hD hS => ?_)
  have hP : va_P (dC, dI) vwCl [(h0, .inr (10, fs))] H := hP
  have hD : va_D A [(h0, .inr (10, fs))] := hD
  refine lv_aload_n hx hb dX10_init_13 rfl (lv_at hl 0 rfl) ?_
  refine lv_sipush (v := 8200) hx hb dX10_init_14 (by decide) ?_
  refine k_newa (N' := 8200) hx hb (hts _ (bP 7 rfl)) hP hD hS (by decide) (by decide) (by decide) (Nat.le_of_ble_eq_true rfl) (Nat.le_of_ble_eq_true rfl) dX10_init_17 (fun n2 H hP hD hS => ?_)
  refine kq_putF [] hts iX10 tyX10 tyX10_ok nmX10 hx hb hown hin2 hK hP hD hS 0 rfl rfl hJ 1 (by decide) (by decide) rfl (hts _ (bP 257 rfl)) rfl (ty := .array .int) (by decide +kernel) (v := .ref n2) rfl rfl dX10_init_19 (fun f h => kJ_set h _ _ rfl) (fun H locs fs hJ hP hD hS => ?_)
  have hP : va_P (dC, dI) vwCl [(h0, .inr (10, fs))] H := hP
  have hD : va_D A [(h0, .inr (10, fs))] := hD
  refine lv_aload_n hx hb dX10_init_22 rfl (lv_at hl 0 rfl) ?_
  refine lv_sipush (v := 8200) hx hb dX10_init_23 (by decide) ?_
  refine k_newa (N' := 8200) hx hb (hts _ (bP 7 rfl)) hP hD hS (by decide) (by decide) (by decide) (Nat.le_of_ble_eq_true rfl) (Nat.le_of_ble_eq_true rfl) dX10_init_26 (fun n3 H hP hD hS => ?_)
  refine kq_putF [] hts iX10 tyX10 tyX10_ok nmX10 hx hb hown hin2 hK hP hD hS 0 rfl rfl hJ 2 (by decide) (by decide) rfl (hts _ (bP 258 rfl)) rfl (ty := .array .int) (by decide +kernel) (v := .ref n3) rfl rfl dX10_init_28 (fun f h => kJ_set h _ _ rfl) (fun H locs fs hJ hP hD hS => ?_)
  have hP : va_P (dC, dI) vwCl [(h0, .inr (10, fs))] H := hP
  have hD : va_D A [(h0, .inr (10, fs))] := hD
  refine lv_aload_n hx hb dX10_init_31 rfl (lv_at hl 0 rfl) ?_
  refine lv_sipush (v := 8200) hx hb dX10_init_32 (by decide) ?_
  refine k_newa (N' := 8200) hx hb (hts _ (bP 7 rfl)) hP hD hS (by decide) (by decide) (by decide) (Nat.le_of_ble_eq_true rfl) (Nat.le_of_ble_eq_true rfl) dX10_init_35 (fun n4 H hP hD hS => ?_)
  refine kq_putF [] hts iX10 tyX10 tyX10_ok nmX10 hx hb hown hin2 hK hP hD hS 0 rfl rfl hJ 3 (by decide) (by decide) rfl (hts _ (bP 259 rfl)) rfl (ty := .array .int) (by decide +kernel) (v := .ref n4) rfl rfl dX10_init_37 (fun f h => kJ_set h _ _ rfl) (fun H locs fs hJ hP hD hS => ?_)
  have hP : va_P (dC, dI) vwCl [(h0, .inr (10, fs))] H := hP
  have hD : va_D A [(h0, .inr (10, fs))] := hD
  refine lv_aload_n hx hb dX10_init_40 rfl (lv_at hl 0 rfl) ?_
  refine lv_ldc hx hb hown (hts _ (bP 260 rfl)) dX10_init_41 ?_
  refine k_newa (N' := 44000) hx hb (hts _ (bP 7 rfl)) hP hD hS (by decide) (by decide) (by decide) (Nat.le_of_ble_eq_true rfl) (Nat.le_of_ble_eq_true rfl) dX10_init_43 (fun n5 H hP hD hS => ?_)
  refine kq_putF [] hts iX10 tyX10 tyX10_ok nmX10 hx hb hown hin2 hK hP hD hS 0 rfl rfl hJ 4 (by decide) (by decide) rfl (hts _ (bP 261 rfl)) rfl (ty := .array .int) (by decide +kernel) (v := .ref n5) rfl rfl dX10_init_45 (fun f h => kJ_set h _ _ rfl) (fun H locs fs hJ hP hD hS => ?_)
  have hP : va_P (dC, dI) vwCl [(h0, .inr (10, fs))] H := hP
  have hD : va_D A [(h0, .inr (10, fs))] := hD
  refine lv_aload_n hx hb dX10_init_48 rfl (lv_at hl 0 rfl) ?_
  refine lv_sipush (v := 3100) hx hb dX10_init_49 (by decide) ?_
  refine k_newa (N' := 3100) hx hb (hts _ (bP 7 rfl)) hP hD hS (by decide) (by decide) (by decide) (Nat.le_of_ble_eq_true rfl) (Nat.le_of_ble_eq_true rfl) dX10_init_52 (fun n6 H hP hD hS => ?_)
  refine kq_putF [] hts iX10 tyX10 tyX10_ok nmX10 hx hb hown hin2 hK hP hD hS 0 rfl rfl hJ 5 (by decide) (by decide) rfl (hts _ (bP 262 rfl)) rfl (ty := .array .int) (by decide +kernel) (v := .ref n6) rfl rfl dX10_init_54 (fun f h => kJ_set h _ _ rfl) (fun H locs fs hJ hP hD hS => ?_)
  have hP : va_P (dC, dI) vwCl [(h0, .inr (10, fs))] H := hP
  have hD : va_D A [(h0, .inr (10, fs))] := hD
  refine lv_aload_n hx hb dX10_init_57 rfl (lv_at hl 0 rfl) ?_
  refine lv_sipush (v := 3100) hx hb dX10_init_58 (by decide) ?_
  refine k_newa (N' := 3100) hx hb (hts _ (bP 7 rfl)) hP hD hS (by decide) (by decide) (by decide) (Nat.le_of_ble_eq_true rfl) (Nat.le_of_ble_eq_true rfl) dX10_init_61 (fun n7 H hP hD hS => ?_)
  refine kq_putF [] hts iX10 tyX10 tyX10_ok nmX10 hx hb hown hin2 hK hP hD hS 0 rfl rfl hJ 6 (by decide) (by decide) rfl (hts _ (bP 263 rfl)) rfl (ty := .array .int) (by decide +kernel) (v := .ref n7) rfl rfl dX10_init_63 (fun f h => kJ_set h _ _ rfl) (fun H locs fs hJ hP hD hS => ?_)
  have hP : va_P (dC, dI) vwCl [(h0, .inr (10, fs))] H := hP
  have hD : va_D A [(h0, .inr (10, fs))] := hD
  refine lv_aload_n hx hb dX10_init_66 rfl (lv_at hl 0 rfl) ?_
  refine lv_sipush (v := 6200) hx hb dX10_init_67 (by decide) ?_
  refine k_newa (N' := 6200) hx hb (hts _ (bP 7 rfl)) hP hD hS (by decide) (by decide) (by decide) (Nat.le_of_ble_eq_true rfl) (Nat.le_of_ble_eq_true rfl) dX10_init_70 (fun n8 H hP hD hS => ?_)
  refine kq_putF [] hts iX10 tyX10 tyX10_ok nmX10 hx hb hown hin2 hK hP hD hS 0 rfl rfl hJ 7 (by decide) (by decide) rfl (hts _ (bP 264 rfl)) rfl (ty := .array .int) (by decide +kernel) (v := .ref n8) rfl rfl dX10_init_72 (fun f h => kJ_set h _ _ rfl) (fun H locs fs hJ hP hD hS => ?_)
  have hP : va_P (dC, dI) vwCl [(h0, .inr (10, fs))] H := hP
  have hD : va_D A [(h0, .inr (10, fs))] := hD
  refine lv_aload_n hx hb dX10_init_75 rfl (lv_at hl 0 rfl) ?_
  refine lv_sipush (v := 3100) hx hb dX10_init_76 (by decide) ?_
  refine k_newa (N' := 3100) hx hb (hts _ (bP 7 rfl)) hP hD hS (by decide) (by decide) (by decide) (Nat.le_of_ble_eq_true rfl) (Nat.le_of_ble_eq_true rfl) dX10_init_79 (fun n9 H hP hD hS => ?_)
  refine kq_putF [] hts iX10 tyX10 tyX10_ok nmX10 hx hb hown hin2 hK hP hD hS 0 rfl rfl hJ 12 (by decide) (by decide) rfl (hts _ (bP 265 rfl)) rfl (ty := .array .int) (by decide +kernel) (v := .ref n9) rfl rfl dX10_init_81 (fun f h => kJ_set h _ _ rfl) (fun H locs fs hJ hP hD hS => ?_)
  have hP : va_P (dC, dI) vwCl [(h0, .inr (10, fs))] H := hP
  have hD : va_D A [(h0, .inr (10, fs))] := hD
  refine lv_aload_n hx hb dX10_init_84 rfl (lv_at hl 0 rfl) ?_
  refine lv_sipush (v := 3100) hx hb dX10_init_85 (by decide) ?_
  refine k_newa (N' := 3100) hx hb (hts _ (bP 7 rfl)) hP hD hS (by decide) (by decide) (by decide) (Nat.le_of_ble_eq_true rfl) (Nat.le_of_ble_eq_true rfl) dX10_init_88 (fun n10 H hP hD hS => ?_)
  refine kq_putF [] hts iX10 tyX10 tyX10_ok nmX10 hx hb hown hin2 hK hP hD hS 0 rfl rfl hJ 13 (by decide) (by decide) rfl (hts _ (bP 266 rfl)) rfl (ty := .array .int) (by decide +kernel) (v := .ref n10) rfl rfl dX10_init_90 (fun f h => kJ_set h _ _ rfl) (fun H locs fs hJ hP hD hS => ?_)
  have hP : va_P (dC, dI) vwCl [(h0, .inr (10, fs))] H := hP
  have hD : va_D A [(h0, .inr (10, fs))] := hD
  refine lv_aload_n hx hb dX10_init_93 rfl (lv_at hl 0 rfl) ?_
  refine lv_aload_n hx hb dX10_init_94 rfl (lv_at hl 1 rfl) ?_
  refine kq_putF [] hts iX10 tyX10 tyX10_ok nmX10 hx hb hown hin2 hK hP hD hS 0 rfl rfl hJ 9 (by decide) (by decide) rfl (hts _ (bP 267 rfl)) rfl (ty := .object "MeetingHouse$Tree") (by decide +kernel) (v := .ref a1) rfl rfl dX10_init_95 (fun f h => kJ_set h _ _ rfl) (fun H locs fs hJ hP hD hS => ?_)
  have hP : va_P (dC, dI) vwCl [(h0, .inr (10, fs))] H := hP
  have hD : va_D A [(h0, .inr (10, fs))] := hD
  refine lv_aload_n hx hb dX10_init_98 rfl (lv_at hl 0 rfl) ?_
  refine lv_aload_n hx hb dX10_init_99 rfl (lv_at hl 2 rfl) ?_
  refine kq_putF [] hts iX10 tyX10 tyX10_ok nmX10 hx hb hown hin2 hK hP hD hS 0 rfl rfl hJ 10 (by decide) (by decide) rfl (hts _ (bP 268 rfl)) rfl (ty := .object "MeetingHouse$Names") (by decide +kernel) (v := .ref a2) rfl rfl dX10_init_100 (fun f h => kJ_set h _ _ rfl) (fun H locs fs hJ hP hD hS => ?_)
  have hP : va_P (dC, dI) vwCl [(h0, .inr (10, fs))] H := hP
  have hD : va_D A [(h0, .inr (10, fs))] := hD
  refine lv_aload_n hx hb dX10_init_103 rfl (lv_at hl 0 rfl) ?_
  refine lv_aload_n hx hb dX10_init_104 rfl (lv_at hl 3 rfl) ?_
  refine kq_putF [] hts iX10 tyX10 tyX10_ok nmX10 hx hb hown hin2 hK hP hD hS 0 rfl rfl hJ 11 (by decide) (by decide) rfl (hts _ (bP 269 rfl)) rfl (ty := .object "MeetingHouse$Sides") (by decide +kernel) (v := .ref a3) rfl rfl dX10_init_105 (fun f h => kJ_set h _ _ rfl) (fun H locs fs hJ hP hD hS => ?_)
  have hP : va_P (dC, dI) vwCl [(h0, .inr (10, fs))] H := hP
  have hD : va_D A [(h0, .inr (10, fs))] := hD
  refine W.widen (k := 10) (n := 95400) (Nat.le_of_ble_eq_true rfl) (Nat.le_of_ble_eq_true rfl) ?_
  exact W.vret hx hb hr (fun t ht hW => ⟨⟨(), rfl, trivial, trivial⟩, hS.F ht⟩) hS.2.2 dX10_init_108
set_option maxHeartbeats 4000000 in
set_option maxRecDepth 100000 in
/-- Coder() -/
theorem c_Coder_init (l : Launch) (dC : Nat → ClassId) (dI : Nat → Nat → Nat) (h0 sz : Nat) (fs : List Value) (a1 : Nat) (a2 : Nat) : Met l yX0_init (.code yX0_init cX0_init 3 none :: wP) ({ frames := 1, cells := 3, slots := 40802, locals := 12 }) (va_Pc [.ref h0, .ref a1, .ref a2] (fun U => U.heap.size = sz ∧ kJ 8 [] fs ∧ va_P (dC, dI) vwCl [(h0, .inr (0, fs))] U.heap ∧ va_K (dC, dI) vwCl [] U ∧ va_D (fun _ => True) [(h0, .inr (0, fs))])) (va_Qv (fun _ : Unit => True) (fun (_ : Unit) (_ : State) => True) (va_A [(h0, .inr (0, fs))] sz)) 3 40802 (va_A [(h0, .inr (0, fs))] sz) := by
  refine Met.ofW (cc := cX0_init) (maxL := 3) (ret := none) (by decide) rfl ?_
  intro p e s m args below meth c s₁ B hml hv
  obtain ⟨rfl, hsz, hJ, hP, hK, hD0⟩ := hv
  have hx := B.exec
  have hb := B.bytes
  have hr := B.returns
  have hts := atoms_spec (ws := .code yX0_init cX0_init 3 none :: wP) B.pre
  have hown : s.vm.findClass RX0 = some m.cls := findClass_of_methodNamed B.named
  subst hsz
  have hD := hD0.self (sz := s.heap.size)
  generalize hAe : va_A [(h0, .inr (0, fs))] s.heap.size = A at hD ⊢
  have hA : ∀ q : Nat, s.heap.size ≤ q → A q := fun q h => by rw [← hAe]; exact Or.inr h
  have hS : va_S A s.heap s.heap [] := va_S.rf
  have hl := lv_entry ([.ref h0, .ref a1, .ref a2]) (n := 3) (Nat.le_of_ble_eq_true rfl)
  rw [lg_entry_eq]
  generalize (lg_sl ([.ref h0, .ref a1, .ref a2]) ++ List.replicate (3 - (lg_sl ([.ref h0, .ref a1, .ref a2])).length) Slot.unset).toArray = ls at hl ⊢
  obtain ⟨H, hHe⟩ : ∃ H, H = s.heap := ⟨_, rfl⟩
  rw [← hHe] at hP ⊢
  have hS : va_S A s.heap H [] := by rw [hHe]; exact hS
  have hin2 : meth.name = "<init>" := (name_of_methodNamed B.named B.method).1
  have hl : lv_has ls 3 [(0, .ref h0), (1, .ref a1), (2, .ref a2)] := hl
  refine lv_aload_n hx hb dX0_init_0 rfl (lv_at hl 0 rfl) ?_
  refine W.objInit hx hb hown (hts _ (bP 271 rfl)) (hts _ (bP 1 rfl)) (hts _ (bP 2 rfl)) rfl (by rw [hml]; exact hl.1) rfl dX0_init_1 (Nat.le_of_ble_eq_true rfl) (Nat.le_of_ble_eq_true rfl) ?_
  refine W.eq (g2 := F0 m 4 ls []) rfl ?_
  refine lv_aload_n hx hb dX0_init_4 rfl (lv_at hl 0 rfl) ?_
  refine lv_ldc hx hb hown (hts _ (bP 272 rfl)) dX0_init_5 ?_
  refine k_newa (N' := 40000) hx hb (hts _ (bP 7 rfl)) hP hD hS (by decide) (by decide) (by decide) (Nat.le_of_ble_eq_true rfl) (Nat.le_of_ble_eq_true rfl) dX0_init_7 (fun n1 H hP hD hS => ?_)
  refine kq_putF [] hts iX0 tyX0 tyX0_ok nmX0 hx hb hown hin2 hK hP hD hS 0 rfl rfl hJ 0 (by decide) (by decide) rfl (hts _ (bP 273 rfl)) rfl (ty := .array .int) (by decide +kernel) (v := .ref n1) rfl rfl dX0_init_9 (fun f h => kJ_set h _ _ rfl) (fun H locs fs hJ hP hD hS => ?_)
  have hP : va_P (dC, dI) vwCl [(h0, .inr (0, fs))] H := hP
  have hD : va_D A [(h0, .inr (0, fs))] := hD
  refine lv_aload_n hx hb dX0_init_12 rfl (lv_at hl 0 rfl) ?_
  refine lv_sipush (v := 401) hx hb dX0_init_13 (by decide) ?_
  refine k_newa (N' := 401) hx hb (hts _ (bP 7 rfl)) hP hD hS (by decide) (by decide) (by decide) (Nat.le_of_ble_eq_true rfl) (Nat.le_of_ble_eq_true rfl) dX0_init_16 (fun n2 H hP hD hS => ?_)
  refine kq_putF [] hts iX0 tyX0 tyX0_ok nmX0 hx hb hown hin2 hK hP hD hS 0 rfl rfl hJ 3 (by decide) (by decide) rfl (hts _ (bP 274 rfl)) rfl (ty := .array .int) (by decide +kernel) (v := .ref n2) rfl rfl dX0_init_18 (fun f h => kJ_set h _ _ rfl) (fun H locs fs hJ hP hD hS => ?_)
  have hP : va_P (dC, dI) vwCl [(h0, .inr (0, fs))] H := hP
  have hD : va_D A [(h0, .inr (0, fs))] := hD
  refine lv_aload_n hx hb dX0_init_21 rfl (lv_at hl 0 rfl) ?_
  refine lv_sipush (v := 401) hx hb dX0_init_22 (by decide) ?_
  refine k_newa (N' := 401) hx hb (hts _ (bP 7 rfl)) hP hD hS (by decide) (by decide) (by decide) (Nat.le_of_ble_eq_true rfl) (Nat.le_of_ble_eq_true rfl) dX0_init_25 (fun n3 H hP hD hS => ?_)
  refine kq_putF [] hts iX0 tyX0 tyX0_ok nmX0 hx hb hown hin2 hK hP hD hS 0 rfl rfl hJ 4 (by decide) (by decide) rfl (hts _ (bP 275 rfl)) rfl (ty := .array .int) (by decide +kernel) (v := .ref n3) rfl rfl dX0_init_27 (fun f h => kJ_set h _ _ rfl) (fun H locs fs hJ hP hD hS => ?_)
  have hP : va_P (dC, dI) vwCl [(h0, .inr (0, fs))] H := hP
  have hD : va_D A [(h0, .inr (0, fs))] := hD
  refine lv_aload_n hx hb dX0_init_30 rfl (lv_at hl 0 rfl) ?_
  refine lv_aload_n hx hb dX0_init_31 rfl (lv_at hl 1 rfl) ?_
  refine kq_putF [] hts iX0 tyX0 tyX0_ok nmX0 hx hb hown hin2 hK hP hD hS 0 rfl rfl hJ 6 (by decide) (by decide) rfl (hts _ (bP 276 rfl)) rfl (ty := .object "MeetingHouse$Tree") (by decide +kernel) (v := .ref a1) rfl rfl dX0_init_32 (fun f h => kJ_set h _ _ rfl) (fun H locs fs hJ hP hD hS => ?_)
  have hP : va_P (dC, dI) vwCl [(h0, .inr (0, fs))] H := hP
  have hD : va_D A [(h0, .inr (0, fs))] := hD
  refine lv_aload_n hx hb dX0_init_35 rfl (lv_at hl 0 rfl) ?_
  refine lv_aload_n hx hb dX0_init_36 rfl (lv_at hl 2 rfl) ?_
  refine kq_putF [] hts iX0 tyX0 tyX0_ok nmX0 hx hb hown hin2 hK hP hD hS 0 rfl rfl hJ 7 (by decide) (by decide) rfl (hts _ (bP 277 rfl)) rfl (ty := .object "MeetingHouse$Names") (by decide +kernel) (v := .ref a2) rfl rfl dX0_init_37 (fun f h => kJ_set h _ _ rfl) (fun H locs fs hJ hP hD hS => ?_)
  have hP : va_P (dC, dI) vwCl [(h0, .inr (0, fs))] H := hP
  have hD : va_D A [(h0, .inr (0, fs))] := hD
  refine W.widen (k := 3) (n := 40802) (Nat.le_of_ble_eq_true rfl) (Nat.le_of_ble_eq_true rfl) ?_
  exact W.vret hx hb hr (fun t ht hW => ⟨⟨(), rfl, trivial, trivial⟩, hS.F ht⟩) hS.2.2 dX0_init_40
set_option maxHeartbeats 4000000 in
set_option maxRecDepth 100000 in
/-- Tree() -/
theorem c_Tree_init (l : Launch) (dC : Nat → ClassId) (dI : Nat → Nat → Nat) (h0 sz : Nat) (fs : List Value) (a1 : Nat) : Met l yX8_init (.code yX8_init cX8_init 2 none :: wP) ({ frames := 1, cells := 10, slots := 62000, locals := 12 }) (va_Pc [.ref h0, .ref a1] (fun U => U.heap.size = sz ∧ kJ 17 [] fs ∧ va_P (dC, dI) vwCl [(h0, .inr (8, fs))] U.heap ∧ va_K (dC, dI) vwCl [] U ∧ va_D (fun _ => True) [(h0, .inr (8, fs))])) (va_Qv (fun u : List Value => kJ 17 [(12, .ref a1)] u) (fun (u : List Value) (t : State) => va_P (dC, dI) vwCl [(h0, .inr (8, u))] t.heap ∧ va_K (dC, dI) vwCl [] t ∧ va_D (va_A [(h0, .inr (8, fs))] sz) [(h0, .inr (8, u))]) (va_A [(h0, .inr (8, fs))] sz)) 10 62000 (va_A [(h0, .inr (8, fs))] sz) := by
  refine Met.ofW (cc := cX8_init) (maxL := 2) (ret := none) (by decide) rfl ?_
  intro p e s m args below meth c s₁ B hml hv
  obtain ⟨rfl, hsz, hJ, hP, hK, hD0⟩ := hv
  have hx := B.exec
  have hb := B.bytes
  have hr := B.returns
  have hts := atoms_spec (ws := .code yX8_init cX8_init 2 none :: wP) B.pre
  have hown : s.vm.findClass RX8 = some m.cls := findClass_of_methodNamed B.named
  subst hsz
  have hD := hD0.self (sz := s.heap.size)
  generalize hAe : va_A [(h0, .inr (8, fs))] s.heap.size = A at hD ⊢
  have hA : ∀ q : Nat, s.heap.size ≤ q → A q := fun q h => by rw [← hAe]; exact Or.inr h
  have hS : va_S A s.heap s.heap [] := va_S.rf
  have hl := lv_entry ([.ref h0, .ref a1]) (n := 2) (Nat.le_of_ble_eq_true rfl)
  rw [lg_entry_eq]
  generalize (lg_sl ([.ref h0, .ref a1]) ++ List.replicate (2 - (lg_sl ([.ref h0, .ref a1])).length) Slot.unset).toArray = ls at hl ⊢
  obtain ⟨H, hHe⟩ : ∃ H, H = s.heap := ⟨_, rfl⟩
  rw [← hHe] at hP ⊢
  have hS : va_S A s.heap H [] := by rw [hHe]; exact hS
  have hin2 : meth.name = "<init>" := (name_of_methodNamed B.named B.method).1
  have hl : lv_has ls 2 [(0, .ref h0), (1, .ref a1)] := hl
  refine lv_aload_n hx hb dX8_init_0 rfl (lv_at hl 0 rfl) ?_
  refine W.objInit hx hb hown (hts _ (bP 279 rfl)) (hts _ (bP 1 rfl)) (hts _ (bP 2 rfl)) rfl (by rw [hml]; exact hl.1) rfl dX8_init_1 (Nat.le_of_ble_eq_true rfl) (Nat.le_of_ble_eq_true rfl) ?_
  refine W.eq (g2 := F0 m 4 ls []) rfl ?_
  refine lv_aload_n hx hb dX8_init_4 rfl (lv_at hl 0 rfl) ?_
  refine lv_sipush (v := 6200) hx hb dX8_init_5 (by decide) ?_
  refine k_newa (N' := 6200) hx hb (hts _ (bP 7 rfl)) hP hD hS (by decide) (by decide) (by decide) (Nat.le_of_ble_eq_true rfl) (Nat.le_of_ble_eq_true rfl) dX8_init_8 (fun n1 H hP hD hS => ?_)
  refine kq_putF [] hts iX8 tyX8 tyX8_ok nmX8 hx hb hown hin2 hK hP hD hS 0 rfl rfl hJ 0 (by decide) (by decide) rfl (hts _ (bP 280 rfl)) rfl (ty := .array .int) (by decide +kernel) (v := .ref n1) rfl rfl dX8_init_10 (fun f h => kJ_set h _ _ rfl) (fun H locs fs hJ hP hD hS => ?_)
  have hP : va_P (dC, dI) vwCl [(h0, .inr (8, fs))] H := hP
  have hD : va_D A [(h0, .inr (8, fs))] := hD
  refine lv_aload_n hx hb dX8_init_13 rfl (lv_at hl 0 rfl) ?_
  refine lv_sipush (v := 6200) hx hb dX8_init_14 (by decide) ?_
  refine k_newa (N' := 6200) hx hb (hts _ (bP 7 rfl)) hP hD hS (by decide) (by decide) (by decide) (Nat.le_of_ble_eq_true rfl) (Nat.le_of_ble_eq_true rfl) dX8_init_17 (fun n2 H hP hD hS => ?_)
  refine kq_putF [] hts iX8 tyX8 tyX8_ok nmX8 hx hb hown hin2 hK hP hD hS 0 rfl rfl hJ 1 (by decide) (by decide) rfl (hts _ (bP 281 rfl)) rfl (ty := .array .int) (by decide +kernel) (v := .ref n2) rfl rfl dX8_init_19 (fun f h => kJ_set h _ _ rfl) (fun H locs fs hJ hP hD hS => ?_)
  have hP : va_P (dC, dI) vwCl [(h0, .inr (8, fs))] H := hP
  have hD : va_D A [(h0, .inr (8, fs))] := hD
  refine lv_aload_n hx hb dX8_init_22 rfl (lv_at hl 0 rfl) ?_
  refine lv_sipush (v := 6200) hx hb dX8_init_23 (by decide) ?_
  refine k_newa (N' := 6200) hx hb (hts _ (bP 7 rfl)) hP hD hS (by decide) (by decide) (by decide) (Nat.le_of_ble_eq_true rfl) (Nat.le_of_ble_eq_true rfl) dX8_init_26 (fun n3 H hP hD hS => ?_)
  refine kq_putF [] hts iX8 tyX8 tyX8_ok nmX8 hx hb hown hin2 hK hP hD hS 0 rfl rfl hJ 2 (by decide) (by decide) rfl (hts _ (bP 282 rfl)) rfl (ty := .array .int) (by decide +kernel) (v := .ref n3) rfl rfl dX8_init_28 (fun f h => kJ_set h _ _ rfl) (fun H locs fs hJ hP hD hS => ?_)
  have hP : va_P (dC, dI) vwCl [(h0, .inr (8, fs))] H := hP
  have hD : va_D A [(h0, .inr (8, fs))] := hD
  refine lv_aload_n hx hb dX8_init_31 rfl (lv_at hl 0 rfl) ?_
  refine lv_sipush (v := 6200) hx hb dX8_init_32 (by decide) ?_
  refine k_newa (N' := 6200) hx hb (hts _ (bP 7 rfl)) hP hD hS (by decide) (by decide) (by decide) (Nat.le_of_ble_eq_true rfl) (Nat.le_of_ble_eq_true rfl) dX8_init_35 (fun n4 H hP hD hS => ?_)
  refine kq_putF [] hts iX8 tyX8 tyX8_ok nmX8 hx hb hown hin2 hK hP hD hS 0 rfl rfl hJ 3 (by decide) (by decide) rfl (hts _ (bP 283 rfl)) rfl (ty := .array .int) (by decide +kernel) (v := .ref n4) rfl rfl dX8_init_37 (fun f h => kJ_set h _ _ rfl) (fun H locs fs hJ hP hD hS => ?_)
  have hP : va_P (dC, dI) vwCl [(h0, .inr (8, fs))] H := hP
  have hD : va_D A [(h0, .inr (8, fs))] := hD
  refine lv_aload_n hx hb dX8_init_40 rfl (lv_at hl 0 rfl) ?_
  refine lv_sipush (v := 6200) hx hb dX8_init_41 (by decide) ?_
  refine k_newa (N' := 6200) hx hb (hts _ (bP 7 rfl)) hP hD hS (by decide) (by decide) (by decide) (Nat.le_of_ble_eq_true rfl) (Nat.le_of_ble_eq_true rfl) dX8_init_44 (fun n5 H hP hD hS => ?_)
  refine kq_putF [] hts iX8 tyX8 tyX8_ok nmX8 hx hb hown hin2 hK hP hD hS 0 rfl rfl hJ 4 (by decide) (by decide) rfl (hts _ (bP 284 rfl)) rfl (ty := .array .int) (by decide +kernel) (v := .ref n5) rfl rfl dX8_init_46 (fun f h => kJ_set h _ _ rfl) (fun H locs fs hJ hP hD hS => ?_)
  have hP : va_P (dC, dI) vwCl [(h0, .inr (8, fs))] H := hP
  have hD : va_D A [(h0, .inr (8, fs))] := hD
  refine lv_aload_n hx hb dX8_init_49 rfl (lv_at hl 0 rfl) ?_
  refine lv_sipush (v := 6200) hx hb dX8_init_50 (by decide) ?_
  refine k_newa (N' := 6200) hx hb (hts _ (bP 7 rfl)) hP hD hS (by decide) (by decide) (by decide) (Nat.le_of_ble_eq_true rfl) (Nat.le_of_ble_eq_true rfl) dX8_init_53 (fun n6 H hP hD hS => ?_)
  refine kq_putF [] hts iX8 tyX8 tyX8_ok nmX8 hx hb hown hin2 hK hP hD hS 0 rfl rfl hJ 5 (by decide) (by decide) rfl (hts _ (bP 285 rfl)) rfl (ty := .array .int) (by decide +kernel) (v := .ref n6) rfl rfl dX8_init_55 (fun f h => kJ_set h _ _ rfl) (fun H locs fs hJ hP hD hS => ?_)
  have hP : va_P (dC, dI) vwCl [(h0, .inr (8, fs))] H := hP
  have hD : va_D A [(h0, .inr (8, fs))] := hD
  refine lv_aload_n hx hb dX8_init_58 rfl (lv_at hl 0 rfl) ?_
  refine lv_sipush (v := 6200) hx hb dX8_init_59 (by decide) ?_
  refine k_newa (N' := 6200) hx hb (hts _ (bP 7 rfl)) hP hD hS (by decide) (by decide) (by decide) (Nat.le_of_ble_eq_true rfl) (Nat.le_of_ble_eq_true rfl) dX8_init_62 (fun n7 H hP hD hS => ?_)
  refine kq_putF [] hts iX8 tyX8 tyX8_ok nmX8 hx hb hown hin2 hK hP hD hS 0 rfl rfl hJ 6 (by decide) (by decide) rfl (hts _ (bP 286 rfl)) rfl (ty := .array .int) (by decide +kernel) (v := .ref n7) rfl rfl dX8_init_64 (fun f h => kJ_set h _ _ rfl) (fun H locs fs hJ hP hD hS => ?_)
  have hP : va_P (dC, dI) vwCl [(h0, .inr (8, fs))] H := hP
  have hD : va_D A [(h0, .inr (8, fs))] := hD
  refine lv_aload_n hx hb dX8_init_67 rfl (lv_at hl 0 rfl) ?_
  refine lv_sipush (v := 6200) hx hb dX8_init_68 (by decide) ?_
  refine k_newa (N' := 6200) hx hb (hts _ (bP 7 rfl)) hP hD hS (by decide) (by decide) (by decide) (Nat.le_of_ble_eq_true rfl) (Nat.le_of_ble_eq_true rfl) dX8_init_71 (fun n8 H hP hD hS => ?_)
  refine kq_putF [] hts iX8 tyX8 tyX8_ok nmX8 hx hb hown hin2 hK hP hD hS 0 rfl rfl hJ 7 (by decide) (by decide) rfl (hts _ (bP 287 rfl)) rfl (ty := .array .int) (by decide +kernel) (v := .ref n8) rfl rfl dX8_init_73 (fun f h => kJ_set h _ _ rfl) (fun H locs fs hJ hP hD hS => ?_)
  have hP : va_P (dC, dI) vwCl [(h0, .inr (8, fs))] H := hP
  have hD : va_D A [(h0, .inr (8, fs))] := hD
  refine lv_aload_n hx hb dX8_init_76 rfl (lv_at hl 0 rfl) ?_
  refine lv_sipush (v := 6200) hx hb dX8_init_77 (by decide) ?_
  refine k_newa (N' := 6200) hx hb (hts _ (bP 7 rfl)) hP hD hS (by decide) (by decide) (by decide) (Nat.le_of_ble_eq_true rfl) (Nat.le_of_ble_eq_true rfl) dX8_init_80 (fun n9 H hP hD hS => ?_)
  refine kq_putF [] hts iX8 tyX8 tyX8_ok nmX8 hx hb hown hin2 hK hP hD hS 0 rfl rfl hJ 8 (by decide) (by decide) rfl (hts _ (bP 288 rfl)) rfl (ty := .array .int) (by decide +kernel) (v := .ref n9) rfl rfl dX8_init_82 (fun f h => kJ_set h _ _ rfl) (fun H locs fs hJ hP hD hS => ?_)
  have hP : va_P (dC, dI) vwCl [(h0, .inr (8, fs))] H := hP
  have hD : va_D A [(h0, .inr (8, fs))] := hD
  refine lv_aload_n hx hb dX8_init_85 rfl (lv_at hl 0 rfl) ?_
  refine lv_sipush (v := 6200) hx hb dX8_init_86 (by decide) ?_
  refine k_newa (N' := 6200) hx hb (hts _ (bP 7 rfl)) hP hD hS (by decide) (by decide) (by decide) (Nat.le_of_ble_eq_true rfl) (Nat.le_of_ble_eq_true rfl) dX8_init_89 (fun n10 H hP hD hS => ?_)
  refine kq_putF [] hts iX8 tyX8 tyX8_ok nmX8 hx hb hown hin2 hK hP hD hS 0 rfl rfl hJ 9 (by decide) (by decide) rfl (hts _ (bP 289 rfl)) rfl (ty := .array .int) (by decide +kernel) (v := .ref n10) rfl rfl dX8_init_91 (fun f h => kJ_set h _ _ rfl) (fun H locs fs hJ hP hD hS => ?_)
  have hP : va_P (dC, dI) vwCl [(h0, .inr (8, fs))] H := hP
  have hD : va_D A [(h0, .inr (8, fs))] := hD
  refine lv_aload_n hx hb dX8_init_94 rfl (lv_at hl 0 rfl) ?_
  refine lv_aload_n hx hb dX8_init_95 rfl (lv_at hl 1 rfl) ?_
  refine kq_putF [(12, .ref a1)] hts iX8 tyX8 tyX8_ok nmX8 hx hb hown hin2 hK hP hD hS 0 rfl rfl hJ 12 (by decide) (by decide) rfl (hts _ (bP 290 rfl)) rfl (ty := .object "MeetingHouse$Text") (by decide +kernel) (v := .ref a1) rfl rfl dX8_init_96 (fun f h => kJ_put h _ _ (by decide)) (fun H locs fs hJ hP hD hS => ?_)
  have hP : va_P (dC, dI) vwCl [(h0, .inr (8, fs))] H := hP
  have hD : va_D A [(h0, .inr (8, fs))] := hD
  refine W.widen (k := 10) (n := 62000) (Nat.le_of_ble_eq_true rfl) (Nat.le_of_ble_eq_true rfl) ?_
  exact W.vret hx hb hr (fun t ht hW => ⟨⟨fs, rfl, kJ_sub hJ (by simp), by rw [ht]; exact hP, va_K.moved hW.alike hK, hD⟩, hS.F ht⟩) hS.2.2 dX8_init_99
set_option maxHeartbeats 4000000 in
set_option maxRecDepth 100000 in
/-- Text() -/
theorem c_Text_init (l : Launch) (dC : Nat → ClassId) (dI : Nat → Nat → Nat) (h0 sz : Nat) (fs : List Value) : Met l yX7_init (.code yX7_init cX7_init 1 none :: wP) ({ frames := 1, cells := 10, slots := 49252, locals := 12 }) (va_Pc [.ref h0] (fun U => U.heap.size = sz ∧ kJ 19 [(1, .int 0)] fs ∧ va_P (dC, dI) vwCl [(h0, .inr (7, fs))] U.heap ∧ va_K (dC, dI) vwCl [] U ∧ va_D (fun _ => True) [(h0, .inr (7, fs))])) (va_Qv (fun v : List Value × Nat × Nat × Nat × Nat × Nat × Nat × Nat × Nat × Nat × ClassId × ClassId × ClassId × ClassId × ClassId × ClassId × ClassId × ClassId × ClassId => match v with | (u, t_tape, t_kind, t_value, t_line, t_blanks, t_letters, t_nameFrom, t_nameNext, t_bucket, ct_tape, ct_kind, ct_value, ct_line, ct_blanks, ct_letters, ct_nameFrom, ct_nameNext, ct_bucket) => kJ 19 [(0, .ref t_tape), (2, .ref t_kind), (3, .ref t_value), (4, .ref t_line), (5, .ref t_blanks), (14, .ref t_letters), (15, .ref t_nameFrom), (16, .ref t_nameNext), (17, .ref t_bucket), (1, .int 0)] u) (fun (v : List Value × Nat × Nat × Nat × Nat × Nat × Nat × Nat × Nat × Nat × ClassId × ClassId × ClassId × ClassId × ClassId × ClassId × ClassId × ClassId × ClassId) (t : State) => match v with | (u, t_tape, t_kind, t_value, t_line, t_blanks, t_letters, t_nameFrom, t_nameNext, t_bucket, ct_tape, ct_kind, ct_value, ct_line, ct_blanks, ct_letters, ct_nameFrom, ct_nameNext, ct_bucket) => va_P (dC, dI) vwCl [(h0, .inr (7, u)), (t_tape, .inl (ct_tape, 6000, .inl (fun _ => 0))), (t_kind, .inl (ct_kind, 6010, .inl (fun _ => 0))), (t_value, .inl (ct_value, 6010, .inl (fun _ => 0))), (t_line, .inl (ct_line, 6010, .inl (fun _ => 0))), (t_blanks, .inl (ct_blanks, 6010, .inl (fun _ => 0))), (t_letters, .inl (ct_letters, 6400, .inl (fun _ => 0))), (t_nameFrom, .inl (ct_nameFrom, 3150, .inl (fun _ => 0))), (t_nameNext, .inl (ct_nameNext, 3150, .inl (fun _ => 0))), (t_bucket, .inl (ct_bucket, 512, .inl (fun _ => 0)))] t.heap ∧ va_K (dC, dI) vwCl [(ct_tape, .byte), (ct_kind, .int), (ct_value, .int), (ct_line, .int), (ct_blanks, .int), (ct_letters, .byte), (ct_nameFrom, .int), (ct_nameNext, .int), (ct_bucket, .int)] t ∧ va_D (va_A [(h0, .inr (7, fs))] sz) [(h0, .inr (7, u)), (t_tape, .inl (ct_tape, 6000, .inl (fun _ => 0))), (t_kind, .inl (ct_kind, 6010, .inl (fun _ => 0))), (t_value, .inl (ct_value, 6010, .inl (fun _ => 0))), (t_line, .inl (ct_line, 6010, .inl (fun _ => 0))), (t_blanks, .inl (ct_blanks, 6010, .inl (fun _ => 0))), (t_letters, .inl (ct_letters, 6400, .inl (fun _ => 0))), (t_nameFrom, .inl (ct_nameFrom, 3150, .inl (fun _ => 0))), (t_nameNext, .inl (ct_nameNext, 3150, .inl (fun _ => 0))), (t_bucket, .inl (ct_bucket, 512, .inl (fun _ => 0)))]) (va_A [(h0, .inr (7, fs))] sz)) 10 49252 (va_A [(h0, .inr (7, fs))] sz) := by
  refine Met.ofW (cc := cX7_init) (maxL := 1) (ret := none) (by decide) rfl ?_
  intro p e s m args below meth c s₁ B hml hv
  obtain ⟨rfl, hsz, hJ, hP, hK, hD0⟩ := hv
  have hx := B.exec
  have hb := B.bytes
  have hr := B.returns
  have hts := atoms_spec (ws := .code yX7_init cX7_init 1 none :: wP) B.pre
  have hown : s.vm.findClass RX7 = some m.cls := findClass_of_methodNamed B.named
  subst hsz
  have hD := hD0.self (sz := s.heap.size)
  generalize hAe : va_A [(h0, .inr (7, fs))] s.heap.size = A at hD ⊢
  have hA : ∀ q : Nat, s.heap.size ≤ q → A q := fun q h => by rw [← hAe]; exact Or.inr h
  have hS : va_S A s.heap s.heap [] := va_S.rf
  have hl := lv_entry ([.ref h0]) (n := 1) (Nat.le_of_ble_eq_true rfl)
  rw [lg_entry_eq]
  generalize (lg_sl ([.ref h0]) ++ List.replicate (1 - (lg_sl ([.ref h0])).length) Slot.unset).toArray = ls at hl ⊢
  obtain ⟨H, hHe⟩ : ∃ H, H = s.heap := ⟨_, rfl⟩
  rw [← hHe] at hP ⊢
  have hS : va_S A s.heap H [] := by rw [hHe]; exact hS
  have hin2 : meth.name = "<init>" := (name_of_methodNamed B.named B.method).1
  have hl : lv_has ls 1 [(0, .ref h0)] := hl
  refine lv_aload_n hx hb dX7_init_0 rfl (lv_at hl 0 rfl) ?_
  refine W.objInit hx hb hown (hts _ (bP 292 rfl)) (hts _ (bP 1 rfl)) (hts _ (bP 2 rfl)) rfl (by rw [hml]; exact hl.1) rfl dX7_init_1 (Nat.le_of_ble_eq_true rfl) (Nat.le_of_ble_eq_true rfl) ?_
  refine W.eq (g2 := F0 m 4 ls []) rfl ?_
  refine lv_aload_n hx hb dX7_init_4 rfl (lv_at hl 0 rfl) ?_
  refine lv_sipush (v := 6000) hx hb dX7_init_5 (by decide) ?_
  refine va_newa (ty := .byte) (a0 := (6000, .inl (fun _ => 0))) hx hb (hts _ (bP 293 rfl)) rfl hK hP hD hS hA (fun _ => rfl) (by decide) (by decide) (by decide) (Nat.le_of_ble_eq_true rfl) (Nat.le_of_ble_eq_true rfl) dX7_init_8 (fun t_tape ct_tape H hK hP hD hS => ?_)
  have hP : va_P (dC, dI) vwCl [(h0, .inr (7, fs)), (t_tape, .inl (ct_tape, 6000, .inl (fun _ => 0)))] H := hP
  have hD : va_D A [(h0, .inr (7, fs)), (t_tape, .inl (ct_tape, 6000, .inl (fun _ => 0)))] := hD
  have hK : va_K (dC, dI) vwCl [(ct_tape, .byte)] s := hK
  refine kq_putF [(0, .ref t_tape), (1, .int 0)] hts iX7 tyX7 tyX7_ok nmX7 hx hb hown hin2 hK hP hD hS 0 rfl rfl hJ 0 (by decide) (by decide) rfl (hts _ (bP 294 rfl)) rfl (ty := .array .byte) (by decide +kernel) (v := .ref t_tape) rfl rfl dX7_init_10 (fun f h => kJ_put h _ _ (by decide)) (fun H locs fs hJ hP hD hS => ?_)
  have hP : va_P (dC, dI) vwCl [(h0, .inr (7, fs)), (t_tape, .inl (ct_tape, 6000, .inl (fun _ => 0)))] H := hP
  have hD : va_D A [(h0, .inr (7, fs)), (t_tape, .inl (ct_tape, 6000, .inl (fun _ => 0)))] := hD
  refine lv_aload_n hx hb dX7_init_13 rfl (lv_at hl 0 rfl) ?_
  refine lv_sipush (v := 6010) hx hb dX7_init_14 (by decide) ?_
  refine va_newa (ty := .int) (a0 := (6010, .inl (fun _ => 0))) hx hb (hts _ (bP 7 rfl)) rfl hK hP hD hS hA (fun _ => rfl) (by decide) (by decide) (by decide) (Nat.le_of_ble_eq_true rfl) (Nat.le_of_ble_eq_true rfl) dX7_init_17 (fun t_kind ct_kind H hK hP hD hS => ?_)
  have hP : va_P (dC, dI) vwCl [(h0, .inr (7, fs)), (t_tape, .inl (ct_tape, 6000, .inl (fun _ => 0))), (t_kind, .inl (ct_kind, 6010, .inl (fun _ => 0)))] H := hP
  have hD : va_D A [(h0, .inr (7, fs)), (t_tape, .inl (ct_tape, 6000, .inl (fun _ => 0))), (t_kind, .inl (ct_kind, 6010, .inl (fun _ => 0)))] := hD
  have hK : va_K (dC, dI) vwCl [(ct_tape, .byte), (ct_kind, .int)] s := hK
  refine kq_putF [(2, .ref t_kind), (0, .ref t_tape), (1, .int 0)] hts iX7 tyX7 tyX7_ok nmX7 hx hb hown hin2 hK hP hD hS 0 rfl rfl hJ 2 (by decide) (by decide) rfl (hts _ (bP 295 rfl)) rfl (ty := .array .int) (by decide +kernel) (v := .ref t_kind) rfl rfl dX7_init_19 (fun f h => kJ_put h _ _ (by decide)) (fun H locs fs hJ hP hD hS => ?_)
  have hP : va_P (dC, dI) vwCl [(h0, .inr (7, fs)), (t_tape, .inl (ct_tape, 6000, .inl (fun _ => 0))), (t_kind, .inl (ct_kind, 6010, .inl (fun _ => 0)))] H := hP
  have hD : va_D A [(h0, .inr (7, fs)), (t_tape, .inl (ct_tape, 6000, .inl (fun _ => 0))), (t_kind, .inl (ct_kind, 6010, .inl (fun _ => 0)))] := hD
  refine lv_aload_n hx hb dX7_init_22 rfl (lv_at hl 0 rfl) ?_
  refine lv_sipush (v := 6010) hx hb dX7_init_23 (by decide) ?_
  refine va_newa (ty := .int) (a0 := (6010, .inl (fun _ => 0))) hx hb (hts _ (bP 7 rfl)) rfl hK hP hD hS hA (fun _ => rfl) (by decide) (by decide) (by decide) (Nat.le_of_ble_eq_true rfl) (Nat.le_of_ble_eq_true rfl) dX7_init_26 (fun t_value ct_value H hK hP hD hS => ?_)
  have hP : va_P (dC, dI) vwCl [(h0, .inr (7, fs)), (t_tape, .inl (ct_tape, 6000, .inl (fun _ => 0))), (t_kind, .inl (ct_kind, 6010, .inl (fun _ => 0))), (t_value, .inl (ct_value, 6010, .inl (fun _ => 0)))] H := hP
  have hD : va_D A [(h0, .inr (7, fs)), (t_tape, .inl (ct_tape, 6000, .inl (fun _ => 0))), (t_kind, .inl (ct_kind, 6010, .inl (fun _ => 0))), (t_value, .inl (ct_value, 6010, .inl (fun _ => 0)))] := hD
  have hK : va_K (dC, dI) vwCl [(ct_tape, .byte), (ct_kind, .int), (ct_value, .int)] s := hK
  refine kq_putF [(3, .ref t_value), (2, .ref t_kind), (0, .ref t_tape), (1, .int 0)] hts iX7 tyX7 tyX7_ok nmX7 hx hb hown hin2 hK hP hD hS 0 rfl rfl hJ 3 (by decide) (by decide) rfl (hts _ (bP 296 rfl)) rfl (ty := .array .int) (by decide +kernel) (v := .ref t_value) rfl rfl dX7_init_28 (fun f h => kJ_put h _ _ (by decide)) (fun H locs fs hJ hP hD hS => ?_)
  have hP : va_P (dC, dI) vwCl [(h0, .inr (7, fs)), (t_tape, .inl (ct_tape, 6000, .inl (fun _ => 0))), (t_kind, .inl (ct_kind, 6010, .inl (fun _ => 0))), (t_value, .inl (ct_value, 6010, .inl (fun _ => 0)))] H := hP
  have hD : va_D A [(h0, .inr (7, fs)), (t_tape, .inl (ct_tape, 6000, .inl (fun _ => 0))), (t_kind, .inl (ct_kind, 6010, .inl (fun _ => 0))), (t_value, .inl (ct_value, 6010, .inl (fun _ => 0)))] := hD
  refine lv_aload_n hx hb dX7_init_31 rfl (lv_at hl 0 rfl) ?_
  refine lv_sipush (v := 6010) hx hb dX7_init_32 (by decide) ?_
  refine va_newa (ty := .int) (a0 := (6010, .inl (fun _ => 0))) hx hb (hts _ (bP 7 rfl)) rfl hK hP hD hS hA (fun _ => rfl) (by decide) (by decide) (by decide) (Nat.le_of_ble_eq_true rfl) (Nat.le_of_ble_eq_true rfl) dX7_init_35 (fun t_line ct_line H hK hP hD hS => ?_)
  have hP : va_P (dC, dI) vwCl [(h0, .inr (7, fs)), (t_tape, .inl (ct_tape, 6000, .inl (fun _ => 0))), (t_kind, .inl (ct_kind, 6010, .inl (fun _ => 0))), (t_value, .inl (ct_value, 6010, .inl (fun _ => 0))), (t_line, .inl (ct_line, 6010, .inl (fun _ => 0)))] H := hP
  have hD : va_D A [(h0, .inr (7, fs)), (t_tape, .inl (ct_tape, 6000, .inl (fun _ => 0))), (t_kind, .inl (ct_kind, 6010, .inl (fun _ => 0))), (t_value, .inl (ct_value, 6010, .inl (fun _ => 0))), (t_line, .inl (ct_line, 6010, .inl (fun _ => 0)))] := hD
  have hK : va_K (dC, dI) vwCl [(ct_tape, .byte), (ct_kind, .int), (ct_value, .int), (ct_line, .int)] s := hK
  refine kq_putF [(4, .ref t_line), (3, .ref t_value), (2, .ref t_kind), (0, .ref t_tape), (1, .int 0)] hts iX7 tyX7 tyX7_ok nmX7 hx hb hown hin2 hK hP hD hS 0 rfl rfl hJ 4 (by decide) (by decide) rfl (hts _ (bP 297 rfl)) rfl (ty := .array .int) (by decide +kernel) (v := .ref t_line) rfl rfl dX7_init_37 (fun f h => kJ_put h _ _ (by decide)) (fun H locs fs hJ hP hD hS => ?_)
  have hP : va_P (dC, dI) vwCl [(h0, .inr (7, fs)), (t_tape, .inl (ct_tape, 6000, .inl (fun _ => 0))), (t_kind, .inl (ct_kind, 6010, .inl (fun _ => 0))), (t_value, .inl (ct_value, 6010, .inl (fun _ => 0))), (t_line, .inl (ct_line, 6010, .inl (fun _ => 0)))] H := hP
  have hD : va_D A [(h0, .inr (7, fs)), (t_tape, .inl (ct_tape, 6000, .inl (fun _ => 0))), (t_kind, .inl (ct_kind, 6010, .inl (fun _ => 0))), (t_value, .inl (ct_value, 6010, .inl (fun _ => 0))), (t_line, .inl (ct_line, 6010, .inl (fun _ => 0)))] := hD
  refine lv_aload_n hx hb dX7_init_40 rfl (lv_at hl 0 rfl) ?_
  refine lv_sipush (v := 6010) hx hb dX7_init_41 (by decide) ?_
  refine va_newa (ty := .int) (a0 := (6010, .inl (fun _ => 0))) hx hb (hts _ (bP 7 rfl)) rfl hK hP hD hS hA (fun _ => rfl) (by decide) (by decide) (by decide) (Nat.le_of_ble_eq_true rfl) (Nat.le_of_ble_eq_true rfl) dX7_init_44 (fun t_blanks ct_blanks H hK hP hD hS => ?_)
  have hP : va_P (dC, dI) vwCl [(h0, .inr (7, fs)), (t_tape, .inl (ct_tape, 6000, .inl (fun _ => 0))), (t_kind, .inl (ct_kind, 6010, .inl (fun _ => 0))), (t_value, .inl (ct_value, 6010, .inl (fun _ => 0))), (t_line, .inl (ct_line, 6010, .inl (fun _ => 0))), (t_blanks, .inl (ct_blanks, 6010, .inl (fun _ => 0)))] H := hP
  have hD : va_D A [(h0, .inr (7, fs)), (t_tape, .inl (ct_tape, 6000, .inl (fun _ => 0))), (t_kind, .inl (ct_kind, 6010, .inl (fun _ => 0))), (t_value, .inl (ct_value, 6010, .inl (fun _ => 0))), (t_line, .inl (ct_line, 6010, .inl (fun _ => 0))), (t_blanks, .inl (ct_blanks, 6010, .inl (fun _ => 0)))] := hD
  have hK : va_K (dC, dI) vwCl [(ct_tape, .byte), (ct_kind, .int), (ct_value, .int), (ct_line, .int), (ct_blanks, .int)] s := hK
  refine kq_putF [(5, .ref t_blanks), (4, .ref t_line), (3, .ref t_value), (2, .ref t_kind), (0, .ref t_tape), (1, .int 0)] hts iX7 tyX7 tyX7_ok nmX7 hx hb hown hin2 hK hP hD hS 0 rfl rfl hJ 5 (by decide) (by decide) rfl (hts _ (bP 298 rfl)) rfl (ty := .array .int) (by decide +kernel) (v := .ref t_blanks) rfl rfl dX7_init_46 (fun f h => kJ_put h _ _ (by decide)) (fun H locs fs hJ hP hD hS => ?_)
  have hP : va_P (dC, dI) vwCl [(h0, .inr (7, fs)), (t_tape, .inl (ct_tape, 6000, .inl (fun _ => 0))), (t_kind, .inl (ct_kind, 6010, .inl (fun _ => 0))), (t_value, .inl (ct_value, 6010, .inl (fun _ => 0))), (t_line, .inl (ct_line, 6010, .inl (fun _ => 0))), (t_blanks, .inl (ct_blanks, 6010, .inl (fun _ => 0)))] H := hP
  have hD : va_D A [(h0, .inr (7, fs)), (t_tape, .inl (ct_tape, 6000, .inl (fun _ => 0))), (t_kind, .inl (ct_kind, 6010, .inl (fun _ => 0))), (t_value, .inl (ct_value, 6010, .inl (fun _ => 0))), (t_line, .inl (ct_line, 6010, .inl (fun _ => 0))), (t_blanks, .inl (ct_blanks, 6010, .inl (fun _ => 0)))] := hD
  refine lv_aload_n hx hb dX7_init_49 rfl (lv_at hl 0 rfl) ?_
  refine lv_sipush (v := 6000) hx hb dX7_init_50 (by decide) ?_
  refine k_newa (N' := 6000) hx hb (hts _ (bP 7 rfl)) hP hD hS (by decide) (by decide) (by decide) (Nat.le_of_ble_eq_true rfl) (Nat.le_of_ble_eq_true rfl) dX7_init_53 (fun n1 H hP hD hS => ?_)
  refine kq_putF [(5, .ref t_blanks), (4, .ref t_line), (3, .ref t_value), (2, .ref t_kind), (0, .ref t_tape), (1, .int 0)] hts iX7 tyX7 tyX7_ok nmX7 hx hb hown hin2 hK hP hD hS 0 rfl rfl hJ 8 (by decide) (by decide) rfl (hts _ (bP 299 rfl)) rfl (ty := .array .int) (by decide +kernel) (v := .ref n1) rfl rfl dX7_init_55 (fun f h => kJ_set h _ _ rfl) (fun H locs fs hJ hP hD hS => ?_)
  have hP : va_P (dC, dI) vwCl [(h0, .inr (7, fs)), (t_tape, .inl (ct_tape, 6000, .inl (fun _ => 0))), (t_kind, .inl (ct_kind, 6010, .inl (fun _ => 0))), (t_value, .inl (ct_value, 6010, .inl (fun _ => 0))), (t_line, .inl (ct_line, 6010, .inl (fun _ => 0))), (t_blanks, .inl (ct_blanks, 6010, .inl (fun _ => 0)))] H := hP
  have hD : va_D A [(h0, .inr (7, fs)), (t_tape, .inl (ct_tape, 6000, .inl (fun _ => 0))), (t_kind, .inl (ct_kind, 6010, .inl (fun _ => 0))), (t_value, .inl (ct_value, 6010, .inl (fun _ => 0))), (t_line, .inl (ct_line, 6010, .inl (fun _ => 0))), (t_blanks, .inl (ct_blanks, 6010, .inl (fun _ => 0)))] := hD
  refine lv_aload_n hx hb dX7_init_58 rfl (lv_at hl 0 rfl) ?_
  refine lv_sipush (v := 6400) hx hb dX7_init_59 (by decide) ?_
  refine va_newa (ty := .byte) (a0 := (6400, .inl (fun _ => 0))) hx hb (hts _ (bP 293 rfl)) rfl hK hP hD hS hA (fun _ => rfl) (by decide) (by decide) (by decide) (Nat.le_of_ble_eq_true rfl) (Nat.le_of_ble_eq_true rfl) dX7_init_62 (fun t_letters ct_letters H hK hP hD hS => ?_)
  have hP : va_P (dC, dI) vwCl [(h0, .inr (7, fs)), (t_tape, .inl (ct_tape, 6000, .inl (fun _ => 0))), (t_kind, .inl (ct_kind, 6010, .inl (fun _ => 0))), (t_value, .inl (ct_value, 6010, .inl (fun _ => 0))), (t_line, .inl (ct_line, 6010, .inl (fun _ => 0))), (t_blanks, .inl (ct_blanks, 6010, .inl (fun _ => 0))), (t_letters, .inl (ct_letters, 6400, .inl (fun _ => 0)))] H := hP
  have hD : va_D A [(h0, .inr (7, fs)), (t_tape, .inl (ct_tape, 6000, .inl (fun _ => 0))), (t_kind, .inl (ct_kind, 6010, .inl (fun _ => 0))), (t_value, .inl (ct_value, 6010, .inl (fun _ => 0))), (t_line, .inl (ct_line, 6010, .inl (fun _ => 0))), (t_blanks, .inl (ct_blanks, 6010, .inl (fun _ => 0))), (t_letters, .inl (ct_letters, 6400, .inl (fun _ => 0)))] := hD
  have hK : va_K (dC, dI) vwCl [(ct_tape, .byte), (ct_kind, .int), (ct_value, .int), (ct_line, .int), (ct_blanks, .int), (ct_letters, .byte)] s := hK
  refine kq_putF [(14, .ref t_letters), (5, .ref t_blanks), (4, .ref t_line), (3, .ref t_value), (2, .ref t_kind), (0, .ref t_tape), (1, .int 0)] hts iX7 tyX7 tyX7_ok nmX7 hx hb hown hin2 hK hP hD hS 0 rfl rfl hJ 14 (by decide) (by decide) rfl (hts _ (bP 300 rfl)) rfl (ty := .array .byte) (by decide +kernel) (v := .ref t_letters) rfl rfl dX7_init_64 (fun f h => kJ_put h _ _ (by decide)) (fun H locs fs hJ hP hD hS => ?_)
  have hP : va_P (dC, dI) vwCl [(h0, .inr (7, fs)), (t_tape, .inl (ct_tape, 6000, .inl (fun _ => 0))), (t_kind, .inl (ct_kind, 6010, .inl (fun _ => 0))), (t_value, .inl (ct_value, 6010, .inl (fun _ => 0))), (t_line, .inl (ct_line, 6010, .inl (fun _ => 0))), (t_blanks, .inl (ct_blanks, 6010, .inl (fun _ => 0))), (t_letters, .inl (ct_letters, 6400, .inl (fun _ => 0)))] H := hP
  have hD : va_D A [(h0, .inr (7, fs)), (t_tape, .inl (ct_tape, 6000, .inl (fun _ => 0))), (t_kind, .inl (ct_kind, 6010, .inl (fun _ => 0))), (t_value, .inl (ct_value, 6010, .inl (fun _ => 0))), (t_line, .inl (ct_line, 6010, .inl (fun _ => 0))), (t_blanks, .inl (ct_blanks, 6010, .inl (fun _ => 0))), (t_letters, .inl (ct_letters, 6400, .inl (fun _ => 0)))] := hD
  refine lv_aload_n hx hb dX7_init_67 rfl (lv_at hl 0 rfl) ?_
  refine lv_sipush (v := 3150) hx hb dX7_init_68 (by decide) ?_
  refine va_newa (ty := .int) (a0 := (3150, .inl (fun _ => 0))) hx hb (hts _ (bP 7 rfl)) rfl hK hP hD hS hA (fun _ => rfl) (by decide) (by decide) (by decide) (Nat.le_of_ble_eq_true rfl) (Nat.le_of_ble_eq_true rfl) dX7_init_71 (fun t_nameFrom ct_nameFrom H hK hP hD hS => ?_)
  have hP : va_P (dC, dI) vwCl [(h0, .inr (7, fs)), (t_tape, .inl (ct_tape, 6000, .inl (fun _ => 0))), (t_kind, .inl (ct_kind, 6010, .inl (fun _ => 0))), (t_value, .inl (ct_value, 6010, .inl (fun _ => 0))), (t_line, .inl (ct_line, 6010, .inl (fun _ => 0))), (t_blanks, .inl (ct_blanks, 6010, .inl (fun _ => 0))), (t_letters, .inl (ct_letters, 6400, .inl (fun _ => 0))), (t_nameFrom, .inl (ct_nameFrom, 3150, .inl (fun _ => 0)))] H := hP
  have hD : va_D A [(h0, .inr (7, fs)), (t_tape, .inl (ct_tape, 6000, .inl (fun _ => 0))), (t_kind, .inl (ct_kind, 6010, .inl (fun _ => 0))), (t_value, .inl (ct_value, 6010, .inl (fun _ => 0))), (t_line, .inl (ct_line, 6010, .inl (fun _ => 0))), (t_blanks, .inl (ct_blanks, 6010, .inl (fun _ => 0))), (t_letters, .inl (ct_letters, 6400, .inl (fun _ => 0))), (t_nameFrom, .inl (ct_nameFrom, 3150, .inl (fun _ => 0)))] := hD
  have hK : va_K (dC, dI) vwCl [(ct_tape, .byte), (ct_kind, .int), (ct_value, .int), (ct_line, .int), (ct_blanks, .int), (ct_letters, .byte), (ct_nameFrom, .int)] s := hK
  refine kq_putF [(15, .ref t_nameFrom), (14, .ref t_letters), (5, .ref t_blanks), (4, .ref t_line), (3, .ref t_value), (2, .ref t_kind), (0, .ref t_tape), (1, .int 0)] hts iX7 tyX7 tyX7_ok nmX7 hx hb hown hin2 hK hP hD hS 0 rfl rfl hJ 15 (by decide) (by decide) rfl (hts _ (bP 301 rfl)) rfl (ty := .array .int) (by decide +kernel) (v := .ref t_nameFrom) rfl rfl dX7_init_73 (fun f h => kJ_put h _ _ (by decide)) (fun H locs fs hJ hP hD hS => ?_)
  have hP : va_P (dC, dI) vwCl [(h0, .inr (7, fs)), (t_tape, .inl (ct_tape, 6000, .inl (fun _ => 0))), (t_kind, .inl (ct_kind, 6010, .inl (fun _ => 0))), (t_value, .inl (ct_value, 6010, .inl (fun _ => 0))), (t_line, .inl (ct_line, 6010, .inl (fun _ => 0))), (t_blanks, .inl (ct_blanks, 6010, .inl (fun _ => 0))), (t_letters, .inl (ct_letters, 6400, .inl (fun _ => 0))), (t_nameFrom, .inl (ct_nameFrom, 3150, .inl (fun _ => 0)))] H := hP
  have hD : va_D A [(h0, .inr (7, fs)), (t_tape, .inl (ct_tape, 6000, .inl (fun _ => 0))), (t_kind, .inl (ct_kind, 6010, .inl (fun _ => 0))), (t_value, .inl (ct_value, 6010, .inl (fun _ => 0))), (t_line, .inl (ct_line, 6010, .inl (fun _ => 0))), (t_blanks, .inl (ct_blanks, 6010, .inl (fun _ => 0))), (t_letters, .inl (ct_letters, 6400, .inl (fun _ => 0))), (t_nameFrom, .inl (ct_nameFrom, 3150, .inl (fun _ => 0)))] := hD
  refine lv_aload_n hx hb dX7_init_76 rfl (lv_at hl 0 rfl) ?_
  refine lv_sipush (v := 3150) hx hb dX7_init_77 (by decide) ?_
  refine va_newa (ty := .int) (a0 := (3150, .inl (fun _ => 0))) hx hb (hts _ (bP 7 rfl)) rfl hK hP hD hS hA (fun _ => rfl) (by decide) (by decide) (by decide) (Nat.le_of_ble_eq_true rfl) (Nat.le_of_ble_eq_true rfl) dX7_init_80 (fun t_nameNext ct_nameNext H hK hP hD hS => ?_)
  have hP : va_P (dC, dI) vwCl [(h0, .inr (7, fs)), (t_tape, .inl (ct_tape, 6000, .inl (fun _ => 0))), (t_kind, .inl (ct_kind, 6010, .inl (fun _ => 0))), (t_value, .inl (ct_value, 6010, .inl (fun _ => 0))), (t_line, .inl (ct_line, 6010, .inl (fun _ => 0))), (t_blanks, .inl (ct_blanks, 6010, .inl (fun _ => 0))), (t_letters, .inl (ct_letters, 6400, .inl (fun _ => 0))), (t_nameFrom, .inl (ct_nameFrom, 3150, .inl (fun _ => 0))), (t_nameNext, .inl (ct_nameNext, 3150, .inl (fun _ => 0)))] H := hP
  have hD : va_D A [(h0, .inr (7, fs)), (t_tape, .inl (ct_tape, 6000, .inl (fun _ => 0))), (t_kind, .inl (ct_kind, 6010, .inl (fun _ => 0))), (t_value, .inl (ct_value, 6010, .inl (fun _ => 0))), (t_line, .inl (ct_line, 6010, .inl (fun _ => 0))), (t_blanks, .inl (ct_blanks, 6010, .inl (fun _ => 0))), (t_letters, .inl (ct_letters, 6400, .inl (fun _ => 0))), (t_nameFrom, .inl (ct_nameFrom, 3150, .inl (fun _ => 0))), (t_nameNext, .inl (ct_nameNext, 3150, .inl (fun _ => 0)))] := hD
  have hK : va_K (dC, dI) vwCl [(ct_tape, .byte), (ct_kind, .int), (ct_value, .int), (ct_line, .int), (ct_blanks, .int), (ct_letters, .byte), (ct_nameFrom, .int), (ct_nameNext, .int)] s := hK
  refine kq_putF [(16, .ref t_nameNext), (15, .ref t_nameFrom), (14, .ref t_letters), (5, .ref t_blanks), (4, .ref t_line), (3, .ref t_value), (2, .ref t_kind), (0, .ref t_tape), (1, .int 0)] hts iX7 tyX7 tyX7_ok nmX7 hx hb hown hin2 hK hP hD hS 0 rfl rfl hJ 16 (by decide) (by decide) rfl (hts _ (bP 302 rfl)) rfl (ty := .array .int) (by decide +kernel) (v := .ref t_nameNext) rfl rfl dX7_init_82 (fun f h => kJ_put h _ _ (by decide)) (fun H locs fs hJ hP hD hS => ?_)
  have hP : va_P (dC, dI) vwCl [(h0, .inr (7, fs)), (t_tape, .inl (ct_tape, 6000, .inl (fun _ => 0))), (t_kind, .inl (ct_kind, 6010, .inl (fun _ => 0))), (t_value, .inl (ct_value, 6010, .inl (fun _ => 0))), (t_line, .inl (ct_line, 6010, .inl (fun _ => 0))), (t_blanks, .inl (ct_blanks, 6010, .inl (fun _ => 0))), (t_letters, .inl (ct_letters, 6400, .inl (fun _ => 0))), (t_nameFrom, .inl (ct_nameFrom, 3150, .inl (fun _ => 0))), (t_nameNext, .inl (ct_nameNext, 3150, .inl (fun _ => 0)))] H := hP
  have hD : va_D A [(h0, .inr (7, fs)), (t_tape, .inl (ct_tape, 6000, .inl (fun _ => 0))), (t_kind, .inl (ct_kind, 6010, .inl (fun _ => 0))), (t_value, .inl (ct_value, 6010, .inl (fun _ => 0))), (t_line, .inl (ct_line, 6010, .inl (fun _ => 0))), (t_blanks, .inl (ct_blanks, 6010, .inl (fun _ => 0))), (t_letters, .inl (ct_letters, 6400, .inl (fun _ => 0))), (t_nameFrom, .inl (ct_nameFrom, 3150, .inl (fun _ => 0))), (t_nameNext, .inl (ct_nameNext, 3150, .inl (fun _ => 0)))] := hD
  refine lv_aload_n hx hb dX7_init_85 rfl (lv_at hl 0 rfl) ?_
  refine lv_sipush (v := 512) hx hb dX7_init_86 (by decide) ?_
  refine va_newa (ty := .int) (a0 := (512, .inl (fun _ => 0))) hx hb (hts _ (bP 7 rfl)) rfl hK hP hD hS hA (fun _ => rfl) (by decide) (by decide) (by decide) (Nat.le_of_ble_eq_true rfl) (Nat.le_of_ble_eq_true rfl) dX7_init_89 (fun t_bucket ct_bucket H hK hP hD hS => ?_)
  have hP : va_P (dC, dI) vwCl [(h0, .inr (7, fs)), (t_tape, .inl (ct_tape, 6000, .inl (fun _ => 0))), (t_kind, .inl (ct_kind, 6010, .inl (fun _ => 0))), (t_value, .inl (ct_value, 6010, .inl (fun _ => 0))), (t_line, .inl (ct_line, 6010, .inl (fun _ => 0))), (t_blanks, .inl (ct_blanks, 6010, .inl (fun _ => 0))), (t_letters, .inl (ct_letters, 6400, .inl (fun _ => 0))), (t_nameFrom, .inl (ct_nameFrom, 3150, .inl (fun _ => 0))), (t_nameNext, .inl (ct_nameNext, 3150, .inl (fun _ => 0))), (t_bucket, .inl (ct_bucket, 512, .inl (fun _ => 0)))] H := hP
  have hD : va_D A [(h0, .inr (7, fs)), (t_tape, .inl (ct_tape, 6000, .inl (fun _ => 0))), (t_kind, .inl (ct_kind, 6010, .inl (fun _ => 0))), (t_value, .inl (ct_value, 6010, .inl (fun _ => 0))), (t_line, .inl (ct_line, 6010, .inl (fun _ => 0))), (t_blanks, .inl (ct_blanks, 6010, .inl (fun _ => 0))), (t_letters, .inl (ct_letters, 6400, .inl (fun _ => 0))), (t_nameFrom, .inl (ct_nameFrom, 3150, .inl (fun _ => 0))), (t_nameNext, .inl (ct_nameNext, 3150, .inl (fun _ => 0))), (t_bucket, .inl (ct_bucket, 512, .inl (fun _ => 0)))] := hD
  have hK : va_K (dC, dI) vwCl [(ct_tape, .byte), (ct_kind, .int), (ct_value, .int), (ct_line, .int), (ct_blanks, .int), (ct_letters, .byte), (ct_nameFrom, .int), (ct_nameNext, .int), (ct_bucket, .int)] s := hK
  refine kq_putF [(17, .ref t_bucket), (16, .ref t_nameNext), (15, .ref t_nameFrom), (14, .ref t_letters), (5, .ref t_blanks), (4, .ref t_line), (3, .ref t_value), (2, .ref t_kind), (0, .ref t_tape), (1, .int 0)] hts iX7 tyX7 tyX7_ok nmX7 hx hb hown hin2 hK hP hD hS 0 rfl rfl hJ 17 (by decide) (by decide) rfl (hts _ (bP 303 rfl)) rfl (ty := .array .int) (by decide +kernel) (v := .ref t_bucket) rfl rfl dX7_init_91 (fun f h => kJ_put h _ _ (by decide)) (fun H locs fs hJ hP hD hS => ?_)
  have hP : va_P (dC, dI) vwCl [(h0, .inr (7, fs)), (t_tape, .inl (ct_tape, 6000, .inl (fun _ => 0))), (t_kind, .inl (ct_kind, 6010, .inl (fun _ => 0))), (t_value, .inl (ct_value, 6010, .inl (fun _ => 0))), (t_line, .inl (ct_line, 6010, .inl (fun _ => 0))), (t_blanks, .inl (ct_blanks, 6010, .inl (fun _ => 0))), (t_letters, .inl (ct_letters, 6400, .inl (fun _ => 0))), (t_nameFrom, .inl (ct_nameFrom, 3150, .inl (fun _ => 0))), (t_nameNext, .inl (ct_nameNext, 3150, .inl (fun _ => 0))), (t_bucket, .inl (ct_bucket, 512, .inl (fun _ => 0)))] H := hP
  have hD : va_D A [(h0, .inr (7, fs)), (t_tape, .inl (ct_tape, 6000, .inl (fun _ => 0))), (t_kind, .inl (ct_kind, 6010, .inl (fun _ => 0))), (t_value, .inl (ct_value, 6010, .inl (fun _ => 0))), (t_line, .inl (ct_line, 6010, .inl (fun _ => 0))), (t_blanks, .inl (ct_blanks, 6010, .inl (fun _ => 0))), (t_letters, .inl (ct_letters, 6400, .inl (fun _ => 0))), (t_nameFrom, .inl (ct_nameFrom, 3150, .inl (fun _ => 0))), (t_nameNext, .inl (ct_nameNext, 3150, .inl (fun _ => 0))), (t_bucket, .inl (ct_bucket, 512, .inl (fun _ => 0)))] := hD
  refine W.widen (k := 10) (n := 49252) (Nat.le_of_ble_eq_true rfl) (Nat.le_of_ble_eq_true rfl) ?_
  exact W.vret hx hb hr (fun t ht hW => ⟨⟨(fs, t_tape, t_kind, t_value, t_line, t_blanks, t_letters, t_nameFrom, t_nameNext, t_bucket, ct_tape, ct_kind, ct_value, ct_line, ct_blanks, ct_letters, ct_nameFrom, ct_nameNext, ct_bucket), rfl, kJ_sub hJ (by intro x hx; simp only [List.mem_cons, List.not_mem_nil, or_false] at hx ⊢; rcases hx with h | h | h | h | h | h | h | h | h | h <;> simp [h]), by rw [ht]; exact hP, va_K.moved hW.alike hK, hD⟩, hS.F ht⟩) hS.2.2 dX7_init_94
end
section
/-! The class: Hall and Machine -/
theorem dX1_init_0 : decode cX1_init 0 = .ok (.aload_n 0, 1) := by decide +kernel
theorem dX1_init_1 : decode cX1_init 1 = .ok (.invokespecial 3, 3) := by decide +kernel
theorem dX1_init_4 : decode cX1_init 4 = .ok (.aload_n 0, 1) := by decide +kernel
theorem dX1_init_5 : decode cX1_init 5 = .ok (.bipush 80, 2) := by decide +kernel
theorem dX1_init_7 : decode cX1_init 7 = .ok (.anewarray 9, 3) := by decide +kernel
theorem dX1_init_10 : decode cX1_init 10 = .ok (.putfield 11, 3) := by decide +kernel
theorem dX1_init_13 : decode cX1_init 13 = .ok (.aload_n 0, 1) := by decide +kernel
theorem dX1_init_14 : decode cX1_init 14 = .ok (.bipush 80, 2) := by decide +kernel
theorem dX1_init_16 : decode cX1_init 16 = .ok (.newarray .int, 2) := by decide +kernel
theorem dX1_init_18 : decode cX1_init 18 = .ok (.putfield 17, 3) := by decide +kernel
theorem dX1_init_21 : decode cX1_init 21 = .ok (.aload_n 0, 1) := by decide +kernel
theorem dX1_init_22 : decode cX1_init 22 = .ok (.sipush 2000, 3) := by decide +kernel
theorem dX1_init_25 : decode cX1_init 25 = .ok (.newarray .byte, 2) := by decide +kernel
theorem dX1_init_27 : decode cX1_init 27 = .ok (.putfield 21, 3) := by decide +kernel
theorem dX1_init_30 : decode cX1_init 30 = .ok (.aload_n 0, 1) := by decide +kernel
theorem dX1_init_31 : decode cX1_init 31 = .ok (.sipush 500, 3) := by decide +kernel
theorem dX1_init_34 : decode cX1_init 34 = .ok (.newarray .int, 2) := by decide +kernel
theorem dX1_init_36 : decode cX1_init 36 = .ok (.putfield 25, 3) := by decide +kernel
theorem dX1_init_39 : decode cX1_init 39 = .ok (.aload_n 0, 1) := by decide +kernel
theorem dX1_init_40 : decode cX1_init 40 = .ok (.sipush 1024, 3) := by decide +kernel
theorem dX1_init_43 : decode cX1_init 43 = .ok (.newarray .int, 2) := by decide +kernel
theorem dX1_init_45 : decode cX1_init 45 = .ok (.putfield 28, 3) := by decide +kernel
theorem dX1_init_48 : decode cX1_init 48 = .ok (.aload_n 0, 1) := by decide +kernel
theorem dX1_init_49 : decode cX1_init 49 = .ok (.sipush 448, 3) := by decide +kernel
theorem dX1_init_52 : decode cX1_init 52 = .ok (.newarray .int, 2) := by decide +kernel
theorem dX1_init_54 : decode cX1_init 54 = .ok (.putfield 31, 3) := by decide +kernel
theorem dX1_init_57 : decode cX1_init 57 = .ok (.iconst 0, 1) := by decide +kernel
theorem dX1_init_58 : decode cX1_init 58 = .ok (.istore_n 1, 1) := by decide +kernel
theorem dX1_init_59 : decode cX1_init 59 = .ok (.iload_n 1, 1) := by decide +kernel
theorem dX1_init_60 : decode cX1_init 60 = .ok (.bipush 80, 2) := by decide +kernel
theorem dX1_init_62 : decode cX1_init 62 = .ok (.if_icmp .ge 30, 3) := by decide +kernel
theorem dX1_init_65 : decode cX1_init 65 = .ok (.aload_n 0, 1) := by decide +kernel
theorem dX1_init_66 : decode cX1_init 66 = .ok (.getfield 11, 3) := by decide +kernel
theorem dX1_init_69 : decode cX1_init 69 = .ok (.iload_n 1, 1) := by decide +kernel
theorem dX1_init_70 : decode cX1_init 70 = .ok (.new 9, 3) := by decide +kernel
theorem dX1_init_73 : decode cX1_init 73 = .ok (.dup, 1) := by decide +kernel
theorem dX1_init_74 : decode cX1_init 74 = .ok (.iload_n 1, 1) := by decide +kernel
theorem dX1_init_75 : decode cX1_init 75 = .ok (.invokespecial 34, 3) := by decide +kernel
theorem dX1_init_78 : decode cX1_init 78 = .ok (.aastore, 1) := by decide +kernel
theorem dX1_init_79 : decode cX1_init 79 = .ok (.aload_n 0, 1) := by decide +kernel
theorem dX1_init_80 : decode cX1_init 80 = .ok (.getfield 17, 3) := by decide +kernel
theorem dX1_init_83 : decode cX1_init 83 = .ok (.iload_n 1, 1) := by decide +kernel
theorem dX1_init_84 : decode cX1_init 84 = .ok (.iload_n 1, 1) := by decide +kernel
theorem dX1_init_85 : decode cX1_init 85 = .ok (.iastore, 1) := by decide +kernel
theorem dX1_init_86 : decode cX1_init 86 = .ok (.iinc 1 1, 3) := by decide +kernel
theorem dX1_init_89 : decode cX1_init 89 = .ok (.goto (-30), 3) := by decide +kernel
theorem dX1_init_92 : decode cX1_init 92 = .ok (.return_, 1) := by decide +kernel
theorem dX3_init_0 : decode cX3_init 0 = .ok (.aload_n 0, 1) := by decide +kernel
theorem dX3_init_1 : decode cX3_init 1 = .ok (.invokespecial 3, 3) := by decide +kernel
theorem dX3_init_4 : decode cX3_init 4 = .ok (.aload_n 0, 1) := by decide +kernel
theorem dX3_init_5 : decode cX3_init 5 = .ok (.new 9, 3) := by decide +kernel
theorem dX3_init_8 : decode cX3_init 8 = .ok (.dup, 1) := by decide +kernel
theorem dX3_init_9 : decode cX3_init 9 = .ok (.invokespecial 11, 3) := by decide +kernel
theorem dX3_init_12 : decode cX3_init 12 = .ok (.putfield 12, 3) := by decide +kernel
theorem dX3_init_15 : decode cX3_init 15 = .ok (.aload_n 0, 1) := by decide +kernel
theorem dX3_init_16 : decode cX3_init 16 = .ok (.new 18, 3) := by decide +kernel
theorem dX3_init_19 : decode cX3_init 19 = .ok (.dup, 1) := by decide +kernel
theorem dX3_init_20 : decode cX3_init 20 = .ok (.invokespecial 20, 3) := by decide +kernel
theorem dX3_init_23 : decode cX3_init 23 = .ok (.putfield 21, 3) := by decide +kernel
theorem dX3_init_26 : decode cX3_init 26 = .ok (.aload_n 0, 1) := by decide +kernel
theorem dX3_init_27 : decode cX3_init 27 = .ok (.sipush 4096, 3) := by decide +kernel
theorem dX3_init_30 : decode cX3_init 30 = .ok (.newarray .int, 2) := by decide +kernel
theorem dX3_init_32 : decode cX3_init 32 = .ok (.putfield 25, 3) := by decide +kernel
theorem dX3_init_35 : decode cX3_init 35 = .ok (.aload_n 0, 1) := by decide +kernel
theorem dX3_init_36 : decode cX3_init 36 = .ok (.sipush 16000, 3) := by decide +kernel
theorem dX3_init_39 : decode cX3_init 39 = .ok (.newarray .int, 2) := by decide +kernel
theorem dX3_init_41 : decode cX3_init 41 = .ok (.putfield 29, 3) := by decide +kernel
theorem dX3_init_44 : decode cX3_init 44 = .ok (.aload_n 0, 1) := by decide +kernel
theorem dX3_init_45 : decode cX3_init 45 = .ok (.bipush 64, 2) := by decide +kernel
theorem dX3_init_47 : decode cX3_init 47 = .ok (.newarray .int, 2) := by decide +kernel
theorem dX3_init_49 : decode cX3_init 49 = .ok (.putfield 32, 3) := by decide +kernel
theorem dX3_init_52 : decode cX3_init 52 = .ok (.aload_n 0, 1) := by decide +kernel
theorem dX3_init_53 : decode cX3_init 53 = .ok (.bipush 64, 2) := by decide +kernel
theorem dX3_init_55 : decode cX3_init 55 = .ok (.newarray .int, 2) := by decide +kernel
theorem dX3_init_57 : decode cX3_init 57 = .ok (.putfield 35, 3) := by decide +kernel
theorem dX3_init_60 : decode cX3_init 60 = .ok (.aload_n 0, 1) := by decide +kernel
theorem dX3_init_61 : decode cX3_init 61 = .ok (.sipush 1608, 3) := by decide +kernel
theorem dX3_init_64 : decode cX3_init 64 = .ok (.newarray .int, 2) := by decide +kernel
theorem dX3_init_66 : decode cX3_init 66 = .ok (.putfield 38, 3) := by decide +kernel
theorem dX3_init_69 : decode cX3_init 69 = .ok (.aload_n 0, 1) := by decide +kernel
theorem dX3_init_70 : decode cX3_init 70 = .ok (.aload_n 1, 1) := by decide +kernel
theorem dX3_init_71 : decode cX3_init 71 = .ok (.putfield 41, 3) := by decide +kernel
theorem dX3_init_74 : decode cX3_init 74 = .ok (.aload_n 0, 1) := by decide +kernel
theorem dX3_init_75 : decode cX3_init 75 = .ok (.aload_n 2, 1) := by decide +kernel
theorem dX3_init_76 : decode cX3_init 76 = .ok (.putfield 45, 3) := by decide +kernel
theorem dX3_init_79 : decode cX3_init 79 = .ok (.aload_n 0, 1) := by decide +kernel
theorem dX3_init_80 : decode cX3_init 80 = .ok (.aload_n 0, 1) := by decide +kernel
theorem dX3_init_81 : decode cX3_init 81 = .ok (.getfield 21, 3) := by decide +kernel
theorem dX3_init_84 : decode cX3_init 84 = .ok (.getfield 49, 3) := by decide +kernel
theorem dX3_init_87 : decode cX3_init 87 = .ok (.iconst 0, 1) := by decide +kernel
theorem dX3_init_88 : decode cX3_init 88 = .ok (.aaload, 1) := by decide +kernel
theorem dX3_init_89 : decode cX3_init 89 = .ok (.putfield 53, 3) := by decide +kernel
theorem dX3_init_92 : decode cX3_init 92 = .ok (.return_, 1) := by decide +kernel
set_option maxHeartbeats 4000000 in
set_option maxRecDepth 100000 in
/-- the loop of Hall(): a process at every place -/
theorem hall_loop {p : Program} {l : Launch} {e : Env} {R : Room} {s : State} {m : MethodId} {args : Array Value} {below : List Frame} {meth : Method} {c : Code} {Q : State → Prop} {dC : Nat → ClassId} {dI : Nat → Nat → Nat} {A : Nat → Prop} {h0 qp qo : Nat} {cp co : ClassId} {fs : List Value} {k0 : Cond}
    (hx : p.tables.exec = Jvm.exec) (hb : c.code = cX1_init) (hml : c.maxLocals = 2) (hts : ∀ w ∈ k0 :: wP, w.before args s = true) (hown : s.vm.findClass RX1 = some m.cls) (hA : ∀ q : Nat, s.heap.size ≤ q → A q) (hJ : kJ 16 [(1, .ref qo), (0, .ref qp)] fs) (hK : va_K (dC, dI) vwCl [(cp, .object RX5), (co, .int)] s) (hRf : 2 ≤ R.frames) (hRl : 33 ≤ R.locals) (C0 S0 : Nat) (hrc : C0 + 3 * 80 ≤ R.cells) (hrs : S0 + 65 * 80 ≤ R.slots)
    (kk : ∀ (H1 : Heap) (locs1 : List Loc) (f : Nat → Option Nat) (g : Nat → Int32) (ls : Array Slot), (∃ q, f 0 = some q) → va_P (dC, dI) vwCl [(h0, .inr (1, fs)), (qp, .inl (cp, 80, .inr (.inr (.inr (.inr f))))), (qo, .inl (co, 80, .inl g))] H1 → va_D A [(h0, .inr (1, fs)), (qp, .inl (cp, 80, .inr (.inr (.inr (.inr f))))), (qo, .inl (co, 80, .inl g))] → va_S A s.heap H1 locs1 → W p l e R s m args below meth c H1 locs1 (C0 + 3 * 80) (S0 + 65 * 80) Q (F0 m 92 ls [])) :
    ∀ (n i : Nat), i + n = 80 → ∀ (H : Heap) (locs : List Loc) (f : Nat → Option Nat) (g : Nat → Int32) (ls : Array Slot), (0 < i → ∃ q, f 0 = some q) → va_P (dC, dI) vwCl [(h0, .inr (1, fs)), (qp, .inl (cp, 80, .inr (.inr (.inr (.inr f))))), (qo, .inl (co, 80, .inl g))] H → va_D A [(h0, .inr (1, fs)), (qp, .inl (cp, 80, .inr (.inr (.inr (.inr f))))), (qo, .inl (co, 80, .inl g))] → va_S A s.heap H locs → lv_has ls 2 [(1, .int (nI i)), (0, .ref h0)] → W p l e R s m args below meth c H locs (C0 + 3 * i) (S0 + 65 * i) Q (F0 m 59 ls []) := by
  intro n
  induction n with
  | zero =>
    intro i hi H locs f g ls hf hP hD hS hl
    have hi : i = 80 := by omega
    subst hi
    refine lv_iload_n hx hb dX1_init_59 rfl (lv_at hl 0 rfl) ?_
    refine lv_bipush (v := 80) hx hb dX1_init_60 (by decide) ?_
    refine lv_icmp_ge (tgt := 92) hx hb dX1_init_62 (by decide) (fun _ => ?_) (fun h => absurd (by decide) h)
    exact kk H locs f g ls (hf (by decide)) hP hD hS
  | succ n ih =>
    intro i hi H locs f g ls hf hP hD hS hl
    refine lv_iload_n hx hb dX1_init_59 rfl (lv_at hl 0 rfl) ?_
    refine lv_bipush (v := 80) hx hb dX1_init_60 (by decide) ?_
    refine lv_icmp_ge (tgt := 92) hx hb dX1_init_62 (by decide) (fun h => absurd h (nI_ge (b := 80) (by omega) (by decide))) (fun _ => ?_)
    refine lv_aload_n hx hb dX1_init_65 rfl (lv_at hl 1 rfl) ?_
    refine va_get (D := (dC, dI)) (ci := 1) (v := .ref qp) (C := RX1) (T := TX1) (N := 16) hx hb hts iX1 hown hK hP 0 rfl rfl 0 (by decide) (hts _ (bP 304 rfl)) (fun _ h9 => h9) (kJ_at hJ 1 rfl) dX1_init_66 ?_
    refine lv_iload_n hx hb dX1_init_69 rfl (lv_at hl 0 rfl) ?_
    refine va_new (ci := 5) (fs := [.int 0, .int 0, .int 0, .int 0, .int 0, .int 0, .int 0, .int 0, .int 0, .int 0, .int 0, .null, .int 0, .int 0, .int 0, .null, .int 0]) (C := RX5) (T := TX5) (N := 17) hx hb hts iX5 tyX5 tyX5_ok hown (hts _ (bP 305 rfl)) (hts _ (bP 306 rfl)) (hts _ (bP 307 rfl)) hK hP hD hS hA rfl (fun j hj => by match j, hj with | 0, _ => rfl | 1, _ => rfl | 2, _ => rfl | 3, _ => rfl | 4, _ => rfl | 5, _ => rfl | 6, _ => rfl | 7, _ => rfl | 8, _ => rfl | 9, _ => rfl | 10, _ => rfl | 11, _ => rfl | 12, _ => rfl | 13, _ => rfl | 14, _ => rfl | 15, _ => rfl | 16, _ => rfl | j + 17, h => exact absurd h (by omega)) (by omega) (by omega) dX1_init_70 (fun o1 H hP hD hS => ?_)
    obtain ⟨g1, hg1⟩ : ∃ z : List Value, z = [.int 0, .int 0, .int 0, .int 0, .int 0, .int 0, .int 0, .int 0, .int 0, .int 0, .int 0, .null, .int 0, .int 0, .int 0, .null, .int 0] := ⟨_, rfl⟩
    rw [← hg1] at hP hD
    have hG1 : kJ 17 [] g1 := ⟨by rw [hg1]; rfl, fun x hx => absurd hx List.not_mem_nil⟩
    clear hg1
    have hP : va_P (dC, dI) vwCl [(h0, .inr (1, fs)), (qp, .inl (cp, 80, .inr (.inr (.inr (.inr f))))), (qo, .inl (co, 80, .inl g)), (o1, .inr (5, g1))] H := hP
    have hD : va_D A [(h0, .inr (1, fs)), (qp, .inl (cp, 80, .inr (.inr (.inr (.inr f))))), (qo, .inl (co, 80, .inl g)), (o1, .inr (5, g1))] := hD
    refine lv_dup hx hb dX1_init_73 rfl ?_
    refine lv_iload_n hx hb dX1_init_74 rfl (lv_at hl 0 rfl) ?_
    have hPc := hP.sub (ws' := [(o1, .inr (5, g1))]) [3] rfl
    have hDc := hD.sub (ws' := [(o1, .inr (5, g1))]) [3] (by decide) rfl
    have hKc := hK.sub (tys' := []) [] rfl
    have hFc := va_free (wc := [(o1, .inr (5, g1))]) hD hS hA [3] rfl
    refine va_callv (va_runI (As := [.int (nI i)]) (rest := [.ref o1, .int (nI i), .ref qp]) ⟨hx, hb, hml, hown, hts⟩ (c_Proc_init l dC dI o1 H.size g1 (nI i)) (cwI 1 hts (gP _ 206 rfl) rfl rfl rfl (hts _ (bP 307 rfl)) (hts _ (bP 308 rfl)) (hts _ (bP 309 rfl)) rfl (by decide +kernel) ⟨hRf, hRl⟩) ⟨fun a U g mk q => by obtain ⟨q0, q1, qJ, qP, qK, qD⟩ := q; exact ⟨q0, q1, qJ, qP, va_K.moved (u := U) (U := U.calling g mk a) (Vm.Alike.refl U.vm) qK, qD⟩, fun U hU hW => ⟨rfl, by rw [hU], kJ_sub hG1 (by simp), by rw [hU]; exact hPc, va_K.moved hW.alike hKc, hDc.weaken (fun _ _ _ _ => trivial)⟩⟩ rfl rfl hl.1 rfl (lv_room (Nat.le_of_ble_eq_true rfl)) dX1_init_75 ⟨by omega, by omega⟩) hS (fun q _ h => hFc q h) hFc (fun u t H1 locs ht hvm hw hB hz1 hk1 hS => ?_)
    obtain ⟨gP_, hgP⟩ : ∃ z, z = u := ⟨_, rfl⟩
    rw [← hgP] at hB
    clear hgP hw
    obtain ⟨hP1, hK1, hD1⟩ := hB
    rw [ht] at hP1
    have hK1 := va_K.moved hvm.symm hK1
    obtain ⟨hP, hD⟩ := va_join (wr := [(h0, .inr (1, fs)), (qp, .inl (cp, 80, .inr (.inr (.inr (.inr f))))), (qo, .inl (co, 80, .inl g))]) (w1 := [(o1, .inr (5, gP_))]) hP hD [3] [0, 1, 2] rfl rfl (by decide) (by decide) hk1 hFc hP1 hD1
    have hK := (hK.sub (tys' := [(cp, .object RX5), (co, .int)]) [0, 1] rfl).app hK1
    clear hPc hDc hKc hFc hP1 hK1 hD1 hk1 hz1
    generalize H1 = H at hP hS ⊢
    have hP : va_P (dC, dI) vwCl [(h0, .inr (1, fs)), (qp, .inl (cp, 80, .inr (.inr (.inr (.inr f))))), (qo, .inl (co, 80, .inl g)), (o1, .inr (5, gP_))] H := hP
    have hD : va_D A [(h0, .inr (1, fs)), (qp, .inl (cp, 80, .inr (.inr (.inr (.inr f))))), (qo, .inl (co, 80, .inl g)), (o1, .inr (5, gP_))] := hD
    have hK : va_K (dC, dI) vwCl [(cp, .object RX5), (co, .int)] s := hK
    refine va_astq (r := (RX5, TX5, 17)) hx hb hK hP hD hS 1 0 3 5 rfl rfl rfl rfl (vp_in_nI (by omega) (by decide)) dX1_init_78 (fun H locs hP hD hS => ?_)
    obtain ⟨f1, hf1⟩ : ∃ z : Nat → Option Nat, z = va_up f (nI i).toNatClampNeg (some o1) := ⟨_, rfl⟩
    rw [← hf1] at hP hD
    have hP : va_P (dC, dI) vwCl [(h0, .inr (1, fs)), (qp, .inl (cp, 80, .inr (.inr (.inr (.inr f1))))), (qo, .inl (co, 80, .inl g)), (o1, .inr (5, gP_))] H := hP
    have hD : va_D A [(h0, .inr (1, fs)), (qp, .inl (cp, 80, .inr (.inr (.inr (.inr f1))))), (qo, .inl (co, 80, .inl g)), (o1, .inr (5, gP_))] := hD
    have hP := hP.sub (ws' := [(h0, .inr (1, fs)), (qp, .inl (cp, 80, .inr (.inr (.inr (.inr f1))))), (qo, .inl (co, 80, .inl g))]) [0, 1, 2] rfl
    have hD := hD.sub (ws' := [(h0, .inr (1, fs)), (qp, .inl (cp, 80, .inr (.inr (.inr (.inr f1))))), (qo, .inl (co, 80, .inl g))]) [0, 1, 2] (by decide) rfl
    have hf0 : ∃ q, f1 0 = some q := by
      rw [hf1, nI_clamp (by omega)]
      by_cases h0i : i = 0
      · subst h0i; exact ⟨_, va_up_s⟩
      · rw [va_up_n (fun h => h0i h.symm)]; exact hf (by omega)
    refine lv_aload_n hx hb dX1_init_79 rfl (lv_at hl 1 rfl) ?_
    refine va_get (D := (dC, dI)) (ci := 1) (v := .ref qo) (C := RX1) (T := TX1) (N := 16) hx hb hts iX1 hown hK hP 0 rfl rfl 1 (by decide) (hts _ (bP 310 rfl)) (fun _ h9 => h9) (kJ_at hJ 0 rfl) dX1_init_80 ?_
    refine lv_iload_n hx hb dX1_init_83 rfl (lv_at hl 0 rfl) ?_
    refine lv_iload_n hx hb dX1_init_84 rfl (lv_at hl 0 rfl) ?_
    refine kq_iast hx hb hK hP hD hS 2 1 rfl rfl (vp_in_nI (by omega) (by decide)) dX1_init_85 (fun H locs g eg hP hD hS => ?_)
    have hP : va_P (dC, dI) vwCl [(h0, .inr (1, fs)), (qp, .inl (cp, 80, .inr (.inr (.inr (.inr f1))))), (qo, .inl (co, 80, .inl g))] H := hP
    have hD : va_D A [(h0, .inr (1, fs)), (qp, .inl (cp, 80, .inr (.inr (.inr (.inr f1))))), (qo, .inl (co, 80, .inl g))] := hD
    refine lv_iinc (v := nI (i + 1)) (lv' := [(1, .int (nI (i + 1))), (0, .ref h0)]) hx hb dX1_init_86 hl (k := 0) rfl (nI_1 i) (by decide) rfl (fun ls hl => ?_)
    refine lv_goto (tgt := 59) hx hb dX1_init_89 (by decide) ?_
    refine W.widen (k := C0 + 3 * (i + 1)) (n := S0 + 65 * (i + 1)) (by omega) (by omega) ?_
    exact ih (i + 1) (by omega) H locs f1 g ls (fun _ => hf0) hP hD hS hl
set_option maxHeartbeats 4000000 in
set_option maxRecDepth 100000 in
/-- Hall() -/
theorem c_Hall_init (l : Launch) (dC : Nat → ClassId) (dI : Nat → Nat → Nat) (h0 sz : Nat) (fs : List Value) : Met l yX1_init (.code yX1_init cX1_init 2 none :: wP) ({ frames := 2, cells := 246, slots := 9332, locals := 33 }) (va_Pc [.ref h0] (fun U => U.heap.size = sz ∧ kJ 16 [] fs ∧ va_P (dC, dI) vwCl [(h0, .inr (1, fs))] U.heap ∧ va_K (dC, dI) vwCl [] U ∧ va_D (fun _ => True) [(h0, .inr (1, fs))] ∧ va_AO "MeetingHouse$Proc" U)) (va_Qv (fun v : List Value × Nat × ClassId × (Nat → Option Nat) => match v with | (u, qp, _, f) => kJ 16 [(0, .ref qp)] u ∧ ∃ q, f 0 = some q) (fun (v : List Value × Nat × ClassId × (Nat → Option Nat)) (t : State) => match v with | (u, qp, cp, f) => va_P (dC, dI) vwCl [(h0, .inr (1, u)), (qp, .inl (cp, 80, .inr (.inr (.inr (.inr f)))))] t.heap ∧ va_K (dC, dI) vwCl [(cp, .object RX5)] t ∧ va_D (va_A [(h0, .inr (1, fs))] sz) [(h0, .inr (1, u)), (qp, .inl (cp, 80, .inr (.inr (.inr (.inr f)))))]) (va_A [(h0, .inr (1, fs))] sz)) 246 9332 (va_A [(h0, .inr (1, fs))] sz) := by
  refine Met.ofW (cc := cX1_init) (maxL := 2) (ret := none) (by decide) rfl ?_
  intro p e s m args below meth c s₁ B hml hv
  obtain ⟨rfl, hsz, hJ, hP, hK, hD0, hao⟩ := hv
  have hx := B.exec
  have hb := B.bytes
  have hr := B.returns
  have hts := atoms_spec (ws := .code yX1_init cX1_init 2 none :: wP) B.pre
  have hown : s.vm.findClass RX1 = some m.cls := findClass_of_methodNamed B.named
  subst hsz
  have hD := hD0.self (sz := s.heap.size)
  generalize hAe : va_A [(h0, .inr (1, fs))] s.heap.size = A at hD ⊢
  have hA : ∀ q : Nat, s.heap.size ≤ q → A q := fun q h => by rw [← hAe]; exact Or.inr h
  have hS : va_S A s.heap s.heap [] := va_S.rf
  have hl := lv_entry ([.ref h0]) (n := 2) (Nat.le_of_ble_eq_true rfl)
  rw [lg_entry_eq]
  generalize (lg_sl ([.ref h0]) ++ List.replicate (2 - (lg_sl ([.ref h0])).length) Slot.unset).toArray = ls at hl ⊢
  obtain ⟨H, hHe⟩ : ∃ H, H = s.heap := ⟨_, rfl⟩
  rw [← hHe] at hP ⊢
  have hS : va_S A s.heap H [] := by rw [hHe]; exact hS
  have hin2 : meth.name = "<init>" := (name_of_methodNamed B.named B.method).1
  have hl : lv_has ls 2 [(0, .ref h0)] := hl
  refine lv_aload_n hx hb dX1_init_0 rfl (lv_at hl 0 rfl) ?_
  refine W.objInit hx hb hown (hts _ (bP 312 rfl)) (hts _ (bP 1 rfl)) (hts _ (bP 2 rfl)) rfl (by rw [hml]; exact hl.1) rfl dX1_init_1 (Nat.le_of_ble_eq_true rfl) (Nat.le_of_ble_eq_true rfl) ?_
  refine W.eq (g2 := F0 m 4 ls []) rfl ?_
  refine lv_aload_n hx hb dX1_init_4 rfl (lv_at hl 0 rfl) ?_
  refine lv_bipush (v := 80) hx hb dX1_init_5 (by decide) ?_
  refine va_newq (C := RX5) (N' := 80) hx hb hown (hts _ (bP 305 rfl)) hao hK hP hD hS hA (by decide) (by decide) (by decide) (Nat.le_of_ble_eq_true rfl) (Nat.le_of_ble_eq_true rfl) dX1_init_7 (fun qp cp H hK hP hD hS => ?_)
  have hP : va_P (dC, dI) vwCl [(h0, .inr (1, fs)), (qp, .inl (cp, 80, .inr (.inr (.inr (.inr (fun _ => none))))))] H := hP
  have hD : va_D A [(h0, .inr (1, fs)), (qp, .inl (cp, 80, .inr (.inr (.inr (.inr (fun _ => none))))))] := hD
  have hK : va_K (dC, dI) vwCl [(cp, .object RX5)] s := hK
  refine kq_putF [(0, .ref qp)] hts iX1 tyX1 tyX1_ok nmX1 hx hb hown hin2 hK hP hD hS 0 rfl rfl hJ 0 (by decide) (by decide) rfl (hts _ (bP 304 rfl)) rfl (ty := .array (.object "MeetingHouse$Proc")) (by decide +kernel) (v := .ref qp) rfl rfl dX1_init_10 (fun f h => kJ_put h _ _ (by decide)) (fun H locs fs hJ hP hD hS => ?_)
  have hP : va_P (dC, dI) vwCl [(h0, .inr (1, fs)), (qp, .inl (cp, 80, .inr (.inr (.inr (.inr (fun _ => none))))))] H := hP
  have hD : va_D A [(h0, .inr (1, fs)), (qp, .inl (cp, 80, .inr (.inr (.inr (.inr (fun _ => none))))))] := hD
  refine lv_aload_n hx hb dX1_init_13 rfl (lv_at hl 0 rfl) ?_
  refine lv_bipush (v := 80) hx hb dX1_init_14 (by decide) ?_
  refine va_newa (ty := .int) (a0 := (80, .inl (fun _ => 0))) hx hb (hts _ (bP 7 rfl)) rfl hK hP hD hS hA (fun _ => rfl) (by decide) (by decide) (by decide) (Nat.le_of_ble_eq_true rfl) (Nat.le_of_ble_eq_true rfl) dX1_init_16 (fun qo co H hK hP hD hS => ?_)
  have hP : va_P (dC, dI) vwCl [(h0, .inr (1, fs)), (qp, .inl (cp, 80, .inr (.inr (.inr (.inr (fun _ => none)))))), (qo, .inl (co, 80, .inl (fun _ => 0)))] H := hP
  have hD : va_D A [(h0, .inr (1, fs)), (qp, .inl (cp, 80, .inr (.inr (.inr (.inr (fun _ => none)))))), (qo, .inl (co, 80, .inl (fun _ => 0)))] := hD
  have hK : va_K (dC, dI) vwCl [(cp, .object RX5), (co, .int)] s := hK
  refine kq_putF [(1, .ref qo), (0, .ref qp)] hts iX1 tyX1 tyX1_ok nmX1 hx hb hown hin2 hK hP hD hS 0 rfl rfl hJ 1 (by decide) (by decide) rfl (hts _ (bP 310 rfl)) rfl (ty := .array .int) (by decide +kernel) (v := .ref qo) rfl rfl dX1_init_18 (fun f h => kJ_put h _ _ (by decide)) (fun H locs fs hJ hP hD hS => ?_)
  have hP : va_P (dC, dI) vwCl [(h0, .inr (1, fs)), (qp, .inl (cp, 80, .inr (.inr (.inr (.inr (fun _ => none)))))), (qo, .inl (co, 80, .inl (fun _ => 0)))] H := hP
  have hD : va_D A [(h0, .inr (1, fs)), (qp, .inl (cp, 80, .inr (.inr (.inr (.inr (fun _ => none)))))), (qo, .inl (co, 80, .inl (fun _ => 0)))] := hD
  refine lv_aload_n hx hb dX1_init_21 rfl (lv_at hl 0 rfl) ?_
  refine lv_sipush (v := 2000) hx hb dX1_init_22 (by decide) ?_
  refine k_newa (N' := 2000) hx hb (hts _ (bP 293 rfl)) hP hD hS (by decide) (by decide) (by decide) (Nat.le_of_ble_eq_true rfl) (Nat.le_of_ble_eq_true rfl) dX1_init_25 (fun n1 H hP hD hS => ?_)
  refine kq_putF [(1, .ref qo), (0, .ref qp)] hts iX1 tyX1 tyX1_ok nmX1 hx hb hown hin2 hK hP hD hS 0 rfl rfl hJ 7 (by decide) (by decide) rfl (hts _ (bP 313 rfl)) rfl (ty := .array .byte) (by decide +kernel) (v := .ref n1) rfl rfl dX1_init_27 (fun f h => kJ_set h _ _ rfl) (fun H locs fs hJ hP hD hS => ?_)
  have hP : va_P (dC, dI) vwCl [(h0, .inr (1, fs)), (qp, .inl (cp, 80, .inr (.inr (.inr (.inr (fun _ => none)))))), (qo, .inl (co, 80, .inl (fun _ => 0)))] H := hP
  have hD : va_D A [(h0, .inr (1, fs)), (qp, .inl (cp, 80, .inr (.inr (.inr (.inr (fun _ => none)))))), (qo, .inl (co, 80, .inl (fun _ => 0)))] := hD
  refine lv_aload_n hx hb dX1_init_30 rfl (lv_at hl 0 rfl) ?_
  refine lv_sipush (v := 500) hx hb dX1_init_31 (by decide) ?_
  refine k_newa (N' := 500) hx hb (hts _ (bP 7 rfl)) hP hD hS (by decide) (by decide) (by decide) (Nat.le_of_ble_eq_true rfl) (Nat.le_of_ble_eq_true rfl) dX1_init_34 (fun n2 H hP hD hS => ?_)
  refine kq_putF [(1, .ref qo), (0, .ref qp)] hts iX1 tyX1 tyX1_ok nmX1 hx hb hown hin2 hK hP hD hS 0 rfl rfl hJ 9 (by decide) (by decide) rfl (hts _ (bP 314 rfl)) rfl (ty := .array .int) (by decide +kernel) (v := .ref n2) rfl rfl dX1_init_36 (fun f h => kJ_set h _ _ rfl) (fun H locs fs hJ hP hD hS => ?_)
  have hP : va_P (dC, dI) vwCl [(h0, .inr (1, fs)), (qp, .inl (cp, 80, .inr (.inr (.inr (.inr (fun _ => none)))))), (qo, .inl (co, 80, .inl (fun _ => 0)))] H := hP
  have hD : va_D A [(h0, .inr (1, fs)), (qp, .inl (cp, 80, .inr (.inr (.inr (.inr (fun _ => none)))))), (qo, .inl (co, 80, .inl (fun _ => 0)))] := hD
  refine lv_aload_n hx hb dX1_init_39 rfl (lv_at hl 0 rfl) ?_
  refine lv_sipush (v := 1024) hx hb dX1_init_40 (by decide) ?_
  refine k_newa (N' := 1024) hx hb (hts _ (bP 7 rfl)) hP hD hS (by decide) (by decide) (by decide) (Nat.le_of_ble_eq_true rfl) (Nat.le_of_ble_eq_true rfl) dX1_init_43 (fun n3 H hP hD hS => ?_)
  refine kq_putF [(1, .ref qo), (0, .ref qp)] hts iX1 tyX1 tyX1_ok nmX1 hx hb hown hin2 hK hP hD hS 0 rfl rfl hJ 12 (by decide) (by decide) rfl (hts _ (bP 315 rfl)) rfl (ty := .array .int) (by decide +kernel) (v := .ref n3) rfl rfl dX1_init_45 (fun f h => kJ_set h _ _ rfl) (fun H locs fs hJ hP hD hS => ?_)
  have hP : va_P (dC, dI) vwCl [(h0, .inr (1, fs)), (qp, .inl (cp, 80, .inr (.inr (.inr (.inr (fun _ => none)))))), (qo, .inl (co, 80, .inl (fun _ => 0)))] H := hP
  have hD : va_D A [(h0, .inr (1, fs)), (qp, .inl (cp, 80, .inr (.inr (.inr (.inr (fun _ => none)))))), (qo, .inl (co, 80, .inl (fun _ => 0)))] := hD
  refine lv_aload_n hx hb dX1_init_48 rfl (lv_at hl 0 rfl) ?_
  refine lv_sipush (v := 448) hx hb dX1_init_49 (by decide) ?_
  refine k_newa (N' := 448) hx hb (hts _ (bP 7 rfl)) hP hD hS (by decide) (by decide) (by decide) (Nat.le_of_ble_eq_true rfl) (Nat.le_of_ble_eq_true rfl) dX1_init_52 (fun n4 H hP hD hS => ?_)
  refine kq_putF [(1, .ref qo), (0, .ref qp)] hts iX1 tyX1 tyX1_ok nmX1 hx hb hown hin2 hK hP hD hS 0 rfl rfl hJ 14 (by decide) (by decide) rfl (hts _ (bP 316 rfl)) rfl (ty := .array .int) (by decide +kernel) (v := .ref n4) rfl rfl dX1_init_54 (fun f h => kJ_set h _ _ rfl) (fun H locs fs hJ hP hD hS => ?_)
  have hP : va_P (dC, dI) vwCl [(h0, .inr (1, fs)), (qp, .inl (cp, 80, .inr (.inr (.inr (.inr (fun _ => none)))))), (qo, .inl (co, 80, .inl (fun _ => 0)))] H := hP
  have hD : va_D A [(h0, .inr (1, fs)), (qp, .inl (cp, 80, .inr (.inr (.inr (.inr (fun _ => none)))))), (qo, .inl (co, 80, .inl (fun _ => 0)))] := hD
  refine lv_iconst (v := 0) hx hb dX1_init_57 (by decide) ?_
  refine lv_istore_n (lv' := [(1, .int 0), (0, .ref h0)]) hx hb dX1_init_58 rfl hl (by decide) rfl (fun ls hl => ?_)
  refine W.widen (k := 6 + 3 * 0) (n := 4132 + 65 * 0) (Nat.le_of_ble_eq_true rfl) (Nat.le_of_ble_eq_true rfl) ?_
  refine hall_loop hx hb hml hts hown hA hJ hK (by decide) (by decide) 6 4132 (Nat.le_of_ble_eq_true rfl) (Nat.le_of_ble_eq_true rfl) (fun H locs f g ls hf hP hD hS => ?_) 80 0 rfl H locs _ _ ls (fun h => absurd h (by decide)) hP hD hS hl
  refine W.widen (k := 246) (n := 9332) (Nat.le_of_ble_eq_true rfl) (Nat.le_of_ble_eq_true rfl) ?_
  have hPq := hP.sub (ws' := [(h0, .inr (1, fs)), (qp, .inl (cp, 80, .inr (.inr (.inr (.inr f)))))]) [0, 1] rfl
  have hDq := hD.sub (ws' := [(h0, .inr (1, fs)), (qp, .inl (cp, 80, .inr (.inr (.inr (.inr f)))))]) [0, 1] (by decide) rfl
  have hKq := hK.sub (tys' := [(cp, .object RX5)]) [0] rfl
  exact W.vret hx hb hr (fun t ht hW => ⟨⟨(fs, qp, cp, f), rfl, ⟨kJ_sub hJ (by simp), hf⟩, by rw [ht]; exact hPq, va_K.moved hW.alike hKq, hDq⟩, hS.F ht⟩) hS.2.2 dX1_init_92
set_option maxHeartbeats 4000000 in
set_option maxRecDepth 100000 in
/-- Machine() -/
theorem c_Machine_init (l : Launch) (dC : Nat → ClassId) (dI : Nat → Nat → Nat) (h0 sz : Nat) (fs : List Value) (a1 : Nat) (a2 : Nat) : Met l yX3_init (.code yX3_init cX3_init 3 none :: wP) ({ frames := 3, cells := 260, slots := 38361, locals := 60 }) (va_Pc [.ref h0, .ref a1, .ref a2] (fun U => U.heap.size = sz ∧ kJ 21 [(0, .int 0)] fs ∧ va_P (dC, dI) vwCl [(h0, .inr (3, fs))] U.heap ∧ va_K (dC, dI) vwCl [] U ∧ va_D (fun _ => True) [(h0, .inr (3, fs))] ∧ va_AO "MeetingHouse$Proc" U ∧ va_Nw (.methodLinkNest RX3 11 yX2_init RX11) U)) (va_Qv (fun u : List Value => kJ 21 [(0, .int 0)] u) (fun (u : List Value) (t : State) => va_P (dC, dI) vwCl [(h0, .inr (3, u))] t.heap ∧ va_K (dC, dI) vwCl [] t ∧ va_D (va_A [(h0, .inr (3, fs))] sz) [(h0, .inr (3, u))]) (va_A [(h0, .inr (3, fs))] sz)) 260 38361 (va_A [(h0, .inr (3, fs))] sz) := by
  refine Met.ofW (cc := cX3_init) (maxL := 3) (ret := none) (by decide) rfl ?_
  intro p e s m args below meth c s₁ B hml hv
  obtain ⟨rfl, hsz, hJ, hP, hK, hD0, hao, hnH⟩ := hv
  have hx := B.exec
  have hb := B.bytes
  have hr := B.returns
  have hts := atoms_spec (ws := .code yX3_init cX3_init 3 none :: wP) B.pre
  have hown : s.vm.findClass RX3 = some m.cls := findClass_of_methodNamed B.named
  subst hsz
  have hD := hD0.self (sz := s.heap.size)
  generalize hAe : va_A [(h0, .inr (3, fs))] s.heap.size = A at hD ⊢
  have hA : ∀ q : Nat, s.heap.size ≤ q → A q := fun q h => by rw [← hAe]; exact Or.inr h
  have hS : va_S A s.heap s.heap [] := va_S.rf
  have hl := lv_entry ([.ref h0, .ref a1, .ref a2]) (n := 3) (Nat.le_of_ble_eq_true rfl)
  rw [lg_entry_eq]
  generalize (lg_sl ([.ref h0, .ref a1, .ref a2]) ++ List.replicate (3 - (lg_sl ([.ref h0, .ref a1, .ref a2])).length) Slot.unset).toArray = ls at hl ⊢
  obtain ⟨H, hHe⟩ : ∃ H, H = s.heap := ⟨_, rfl⟩
  rw [← hHe] at hP ⊢
  have hS : va_S A s.heap H [] := by rw [hHe]; exact hS
  have hin2 : meth.name = "<init>" := (name_of_methodNamed B.named B.method).1
  have hl : lv_has ls 3 [(0, .ref h0), (1, .ref a1), (2, .ref a2)] := hl
  refine lv_aload_n hx hb dX3_init_0 rfl (lv_at hl 0 rfl) ?_
  refine W.objInit hx hb hown (hts _ (bP 318 rfl)) (hts _ (bP 1 rfl)) (hts _ (bP 2 rfl)) rfl (by rw [hml]; exact hl.1) rfl dX3_init_1 (Nat.le_of_ble_eq_true rfl) (Nat.le_of_ble_eq_true rfl) ?_
  refine W.eq (g2 := F0 m 4 ls []) rfl ?_
  refine lv_aload_n hx hb dX3_init_4 rfl (lv_at hl 0 rfl) ?_
  refine va_new (ci := 2) (fs := [.int 0, .null, .null, .null, .null, .null, .null, .null, .int 0, .int 0, .int 0, .int 0, .int 0]) (C := RX2) (T := TX2) (N := 13) hx hb hts iX2 tyX2 tyX2_ok hown (hts _ (bP 319 rfl)) (hts _ (bP 320 rfl)) (hts _ (bP 321 rfl)) hK hP hD hS hA rfl (fun j hj => by match j, hj with | 0, _ => rfl | 1, _ => rfl | 2, _ => rfl | 3, _ => rfl | 4, _ => rfl | 5, _ => rfl | 6, _ => rfl | 7, _ => rfl | 8, _ => rfl | 9, _ => rfl | 10, _ => rfl | 11, _ => rfl | 12, _ => rfl | j + 13, h => exact absurd h (by omega)) (Nat.le_of_ble_eq_true rfl) (Nat.le_of_ble_eq_true rfl) dX3_init_5 (fun o1 H hP hD hS => ?_)
  obtain ⟨g1, hg1⟩ : ∃ z : List Value, z = [.int 0, .null, .null, .null, .null, .null, .null, .null, .int 0, .int 0, .int 0, .int 0, .int 0] := ⟨_, rfl⟩
  rw [← hg1] at hP hD
  have hG1 : kJ 13 [] g1 := ⟨by rw [hg1]; rfl, fun x hx => absurd hx List.not_mem_nil⟩
  clear hg1
  have hP : va_P (dC, dI) vwCl [(h0, .inr (3, fs)), (o1, .inr (2, g1))] H := hP
  have hD : va_D A [(h0, .inr (3, fs)), (o1, .inr (2, g1))] := hD
  refine lv_dup hx hb dX3_init_8 rfl ?_
  have hPc := hP.sub (ws' := [(o1, .inr (2, g1))]) [1] rfl
  have hDc := hD.sub (ws' := [(o1, .inr (2, g1))]) [1] (by decide) rfl
  have hKc := hK.sub (tys' := []) [] rfl
  have hFc := va_free (wc := [(o1, .inr (2, g1))]) hD hS hA [1] rfl
  refine va_callv (va_runIN (As := []) (rest := [.ref o1, .ref h0]) ⟨hx, hb, hml, hown, hts⟩ (c_Heap_init l dC dI o1 H.size g1) (⟨va_cnB 0 hts (gP _ 211 rfl) rfl rfl rfl hnH (hts _ (bP 321 rfl)) (by decide +kernel) ⟨Nat.le_of_ble_eq_true rfl, Nat.le_of_ble_eq_true rfl⟩, rfl, hts _ (bP 322 rfl)⟩) ⟨fun a U g mk q => by obtain ⟨q0, q1, qJ, qP, qK, qD⟩ := q; exact ⟨q0, q1, qJ, qP, va_K.moved (u := U) (U := U.calling g mk a) (Vm.Alike.refl U.vm) qK, qD⟩, fun U hU hW => ⟨rfl, by rw [hU], kJ_sub hG1 (by simp), by rw [hU]; exact hPc, va_K.moved hW.alike hKc, hDc.weaken (fun _ _ _ _ => trivial)⟩⟩ rfl rfl hl.1 rfl (lv_room (Nat.le_of_ble_eq_true rfl)) dX3_init_9 ⟨Nat.le_of_ble_eq_true rfl, Nat.le_of_ble_eq_true rfl⟩) hS (fun q _ h => hFc q h) hFc (fun u t H1 locs ht hvm hw hB hz1 hk1 hS => ?_)
  obtain ⟨hP, hD⟩ := va_join (wr := [(h0, .inr (3, fs))]) (w1 := []) hP hD [1] [0] rfl rfl (by decide) (by decide) hk1 hFc (fun k q h => by simp at h) ⟨fun i j p q h => by simp at h, fun k q h => by simp at h⟩
  clear hPc hDc hKc hFc hk1 hz1 hB hw
  generalize H1 = H at hP hS ⊢
  have hP : va_P (dC, dI) vwCl [(h0, .inr (3, fs))] H := hP
  have hD : va_D A [(h0, .inr (3, fs))] := hD
  refine kq_putF [(0, .int 0)] hts iX3 tyX3 tyX3_ok nmX3 hx hb hown hin2 hK hP hD hS 0 rfl rfl hJ 4 (by decide) (by decide) rfl (hts _ (bP 323 rfl)) rfl (ty := .object "MeetingHouse$Heap") (by decide +kernel) (v := .ref o1) rfl rfl dX3_init_12 (fun f h => kJ_set h _ _ rfl) (fun H locs fs hJ hP hD hS => ?_)
  have hP : va_P (dC, dI) vwCl [(h0, .inr (3, fs))] H := hP
  have hD : va_D A [(h0, .inr (3, fs))] := hD
  refine lv_aload_n hx hb dX3_init_15 rfl (lv_at hl 0 rfl) ?_
  refine va_new (ci := 1) (fs := [.null, .null, .int 0, .int 0, .int 0, .int 0, .int 0, .null, .int 0, .null, .int 0, .int 0, .null, .int 0, .null, .int 0]) (C := RX1) (T := TX1) (N := 16) hx hb hts iX1 tyX1 tyX1_ok hown (hts _ (bP 324 rfl)) (hts _ (bP 325 rfl)) (hts _ (bP 326 rfl)) hK hP hD hS hA rfl (fun j hj => by match j, hj with | 0, _ => rfl | 1, _ => rfl | 2, _ => rfl | 3, _ => rfl | 4, _ => rfl | 5, _ => rfl | 6, _ => rfl | 7, _ => rfl | 8, _ => rfl | 9, _ => rfl | 10, _ => rfl | 11, _ => rfl | 12, _ => rfl | 13, _ => rfl | 14, _ => rfl | 15, _ => rfl | j + 16, h => exact absurd h (by omega)) (Nat.le_of_ble_eq_true rfl) (Nat.le_of_ble_eq_true rfl) dX3_init_16 (fun o2 H hP hD hS => ?_)
  obtain ⟨g2, hg2⟩ : ∃ z : List Value, z = [.null, .null, .int 0, .int 0, .int 0, .int 0, .int 0, .null, .int 0, .null, .int 0, .int 0, .null, .int 0, .null, .int 0] := ⟨_, rfl⟩
  rw [← hg2] at hP hD
  have hG2 : kJ 16 [] g2 := ⟨by rw [hg2]; rfl, fun x hx => absurd hx List.not_mem_nil⟩
  clear hg2
  have hP : va_P (dC, dI) vwCl [(h0, .inr (3, fs)), (o2, .inr (1, g2))] H := hP
  have hD : va_D A [(h0, .inr (3, fs)), (o2, .inr (1, g2))] := hD
  refine lv_dup hx hb dX3_init_19 rfl ?_
  have hPc := hP.sub (ws' := [(o2, .inr (1, g2))]) [1] rfl
  have hDc := hD.sub (ws' := [(o2, .inr (1, g2))]) [1] (by decide) rfl
  have hKc := hK.sub (tys' := []) [] rfl
  have hFc := va_free (wc := [(o2, .inr (1, g2))]) hD hS hA [1] rfl
  refine va_callv (va_runI (As := []) (rest := [.ref o2, .ref h0]) ⟨hx, hb, hml, hown, hts⟩ (c_Hall_init l dC dI o2 H.size g2) (cwI 0 hts (gP _ 311 rfl) rfl rfl rfl (hts _ (bP 326 rfl)) (hts _ (bP 327 rfl)) (hts _ (bP 328 rfl)) rfl (by decide +kernel) ⟨Nat.le_of_ble_eq_true rfl, Nat.le_of_ble_eq_true rfl⟩) ⟨fun a U g mk q => by obtain ⟨q0, q1, qJ, qP, qK, qD, hao⟩ := q; exact ⟨q0, q1, qJ, qP, va_K.moved (u := U) (U := U.calling g mk a) (Vm.Alike.refl U.vm) qK, qD, va_AO.moved (u := U) (U := U.calling g mk a) (Vm.Alike.refl U.vm) hao⟩, fun U hU hW => ⟨rfl, by rw [hU], kJ_sub hG2 (by simp), by rw [hU]; exact hPc, va_K.moved hW.alike hKc, hDc.weaken (fun _ _ _ _ => trivial), va_AO.moved hW.alike hao⟩⟩ rfl rfl hl.1 rfl (lv_room (Nat.le_of_ble_eq_true rfl)) dX3_init_20 ⟨Nat.le_of_ble_eq_true rfl, Nat.le_of_ble_eq_true rfl⟩) hS (fun q _ h => hFc q h) hFc (fun u t H1 locs ht hvm hw hB hz1 hk1 hS => ?_)
  obtain ⟨gH_, qp, cp, fp⟩ := u
  obtain ⟨hGH, hfp⟩ := hw
  obtain ⟨hP1, hK1, hD1⟩ := hB
  rw [ht] at hP1
  have hK1 := va_K.moved hvm.symm hK1
  obtain ⟨hP, hD⟩ := va_join (wr := [(h0, .inr (3, fs))]) (w1 := [(o2, .inr (1, gH_)), (qp, .inl (cp, 80, .inr (.inr (.inr (.inr fp)))))]) hP hD [1] [0] rfl rfl (by decide) (by decide) hk1 hFc hP1 hD1
  have hK := (hK.sub (tys' := []) [] rfl).app hK1
  clear hPc hDc hKc hFc hP1 hK1 hD1 hk1 hz1
  generalize H1 = H at hP hS ⊢
  have hP : va_P (dC, dI) vwCl [(h0, .inr (3, fs)), (o2, .inr (1, gH_)), (qp, .inl (cp, 80, .inr (.inr (.inr (.inr fp)))))] H := hP
  have hD : va_D A [(h0, .inr (3, fs)), (o2, .inr (1, gH_)), (qp, .inl (cp, 80, .inr (.inr (.inr (.inr fp)))))] := hD
  have hK : va_K (dC, dI) vwCl [(cp, .object RX5)] s := hK
  refine kq_putF [(5, .ref o2), (0, .int 0)] hts iX3 tyX3 tyX3_ok nmX3 hx hb hown hin2 hK hP hD hS 0 rfl rfl hJ 5 (by decide) (by decide) rfl (hts _ (bP 329 rfl)) rfl (ty := .object "MeetingHouse$Hall") (by decide +kernel) (v := .ref o2) rfl rfl dX3_init_23 (fun f h => kJ_put h _ _ (by decide)) (fun H locs fs hJ hP hD hS => ?_)
  have hP : va_P (dC, dI) vwCl [(h0, .inr (3, fs)), (o2, .inr (1, gH_)), (qp, .inl (cp, 80, .inr (.inr (.inr (.inr fp)))))] H := hP
  have hD : va_D A [(h0, .inr (3, fs)), (o2, .inr (1, gH_)), (qp, .inl (cp, 80, .inr (.inr (.inr (.inr fp)))))] := hD
  refine lv_aload_n hx hb dX3_init_26 rfl (lv_at hl 0 rfl) ?_
  refine lv_sipush (v := 4096) hx hb dX3_init_27 (by decide) ?_
  refine k_newa (N' := 4096) hx hb (hts _ (bP 7 rfl)) hP hD hS (by decide) (by decide) (by decide) (Nat.le_of_ble_eq_true rfl) (Nat.le_of_ble_eq_true rfl) dX3_init_30 (fun n3 H hP hD hS => ?_)
  refine kq_put [(5, .ref o2), (0, .int 0)] hts iX3 tyX3 tyX3_ok nmX3 hx hb hown hK hP hD hS 0 rfl rfl hJ 6 (by decide) (by decide) (hts _ (bP 330 rfl)) rfl (ty := .array .int) (by decide +kernel) (v := .ref n3) rfl rfl dX3_init_32 (fun f h => kJ_set h _ _ rfl) (fun H locs fs hJ hP hD hS => ?_)
  have hP : va_P (dC, dI) vwCl [(h0, .inr (3, fs)), (o2, .inr (1, gH_)), (qp, .inl (cp, 80, .inr (.inr (.inr (.inr fp)))))] H := hP
  have hD : va_D A [(h0, .inr (3, fs)), (o2, .inr (1, gH_)), (qp, .inl (cp, 80, .inr (.inr (.inr (.inr fp)))))] := hD
  refine lv_aload_n hx hb dX3_init_35 rfl (lv_at hl 0 rfl) ?_
  refine lv_sipush (v := 16000) hx hb dX3_init_36 (by decide) ?_
  refine k_newa (N' := 16000) hx hb (hts _ (bP 7 rfl)) hP hD hS (by decide) (by decide) (by decide) (Nat.le_of_ble_eq_true rfl) (Nat.le_of_ble_eq_true rfl) dX3_init_39 (fun n4 H hP hD hS => ?_)
  refine kq_putF [(5, .ref o2), (0, .int 0)] hts iX3 tyX3 tyX3_ok nmX3 hx hb hown hin2 hK hP hD hS 0 rfl rfl hJ 8 (by decide) (by decide) rfl (hts _ (bP 331 rfl)) rfl (ty := .array .int) (by decide +kernel) (v := .ref n4) rfl rfl dX3_init_41 (fun f h => kJ_set h _ _ rfl) (fun H locs fs hJ hP hD hS => ?_)
  have hP : va_P (dC, dI) vwCl [(h0, .inr (3, fs)), (o2, .inr (1, gH_)), (qp, .inl (cp, 80, .inr (.inr (.inr (.inr fp)))))] H := hP
  have hD : va_D A [(h0, .inr (3, fs)), (o2, .inr (1, gH_)), (qp, .inl (cp, 80, .inr (.inr (.inr (.inr fp)))))] := hD
  refine lv_aload_n hx hb dX3_init_44 rfl (lv_at hl 0 rfl) ?_
  refine lv_bipush (v := 64) hx hb dX3_init_45 (by decide) ?_
  refine k_newa (N' := 64) hx hb (hts _ (bP 7 rfl)) hP hD hS (by decide) (by decide) (by decide) (Nat.le_of_ble_eq_true rfl) (Nat.le_of_ble_eq_true rfl) dX3_init_47 (fun n5 H hP hD hS => ?_)
  refine kq_putF [(5, .ref o2), (0, .int 0)] hts iX3 tyX3 tyX3_ok nmX3 hx hb hown hin2 hK hP hD hS 0 rfl rfl hJ 18 (by decide) (by decide) rfl (hts _ (bP 332 rfl)) rfl (ty := .array .int) (by decide +kernel) (v := .ref n5) rfl rfl dX3_init_49 (fun f h => kJ_set h _ _ rfl) (fun H locs fs hJ hP hD hS => ?_)
  have hP : va_P (dC, dI) vwCl [(h0, .inr (3, fs)), (o2, .inr (1, gH_)), (qp, .inl (cp, 80, .inr (.inr (.inr (.inr fp)))))] H := hP
  have hD : va_D A [(h0, .inr (3, fs)), (o2, .inr (1, gH_)), (qp, .inl (cp, 80, .inr (.inr (.inr (.inr fp)))))] := hD
  refine lv_aload_n hx hb dX3_init_52 rfl (lv_at hl 0 rfl) ?_
  refine lv_bipush (v := 64) hx hb dX3_init_53 (by decide) ?_
  refine k_newa (N' := 64) hx hb (hts _ (bP 7 rfl)) hP hD hS (by decide) (by decide) (by decide) (Nat.le_of_ble_eq_true rfl) (Nat.le_of_ble_eq_true rfl) dX3_init_55 (fun n6 H hP hD hS => ?_)
  refine kq_putF [(5, .ref o2), (0, .int 0)] hts iX3 tyX3 tyX3_ok nmX3 hx hb hown hin2 hK hP hD hS 0 rfl rfl hJ 19 (by decide) (by decide) rfl (hts _ (bP 333 rfl)) rfl (ty := .array .int) (by decide +kernel) (v := .ref n6) rfl rfl dX3_init_57 (fun f h => kJ_set h _ _ rfl) (fun H locs fs hJ hP hD hS => ?_)
  have hP : va_P (dC, dI) vwCl [(h0, .inr (3, fs)), (o2, .inr (1, gH_)), (qp, .inl (cp, 80, .inr (.inr (.inr (.inr fp)))))] H := hP
  have hD : va_D A [(h0, .inr (3, fs)), (o2, .inr (1, gH_)), (qp, .inl (cp, 80, .inr (.inr (.inr (.inr fp)))))] := hD
  refine lv_aload_n hx hb dX3_init_60 rfl (lv_at hl 0 rfl) ?_
  refine lv_sipush (v := 1608) hx hb dX3_init_61 (by decide) ?_
  refine k_newa (N' := 1608) hx hb (hts _ (bP 7 rfl)) hP hD hS (by decide) (by decide) (by decide) (Nat.le_of_ble_eq_true rfl) (Nat.le_of_ble_eq_true rfl) dX3_init_64 (fun n7 H hP hD hS => ?_)
  refine kq_putF [(5, .ref o2), (0, .int 0)] hts iX3 tyX3 tyX3_ok nmX3 hx hb hown hin2 hK hP hD hS 0 rfl rfl hJ 20 (by decide) (by decide) rfl (hts _ (bP 334 rfl)) rfl (ty := .array .int) (by decide +kernel) (v := .ref n7) rfl rfl dX3_init_66 (fun f h => kJ_set h _ _ rfl) (fun H locs fs hJ hP hD hS => ?_)
  have hP : va_P (dC, dI) vwCl [(h0, .inr (3, fs)), (o2, .inr (1, gH_)), (qp, .inl (cp, 80, .inr (.inr (.inr (.inr fp)))))] H := hP
  have hD : va_D A [(h0, .inr (3, fs)), (o2, .inr (1, gH_)), (qp, .inl (cp, 80, .inr (.inr (.inr (.inr fp)))))] := hD
  refine lv_aload_n hx hb dX3_init_69 rfl (lv_at hl 0 rfl) ?_
  refine lv_aload_n hx hb dX3_init_70 rfl (lv_at hl 1 rfl) ?_
  refine kq_putF [(5, .ref o2), (0, .int 0)] hts iX3 tyX3 tyX3_ok nmX3 hx hb hown hin2 hK hP hD hS 0 rfl rfl hJ 2 (by decide) (by decide) rfl (hts _ (bP 335 rfl)) rfl (ty := .object "MeetingHouse$Coder") (by decide +kernel) (v := .ref a1) rfl rfl dX3_init_71 (fun f h => kJ_set h _ _ rfl) (fun H locs fs hJ hP hD hS => ?_)
  have hP : va_P (dC, dI) vwCl [(h0, .inr (3, fs)), (o2, .inr (1, gH_)), (qp, .inl (cp, 80, .inr (.inr (.inr (.inr fp)))))] H := hP
  have hD : va_D A [(h0, .inr (3, fs)), (o2, .inr (1, gH_)), (qp, .inl (cp, 80, .inr (.inr (.inr (.inr fp)))))] := hD
  refine lv_aload_n hx hb dX3_init_74 rfl (lv_at hl 0 rfl) ?_
  refine lv_aload_n hx hb dX3_init_75 rfl (lv_at hl 2 rfl) ?_
  refine kq_putF [(5, .ref o2), (0, .int 0)] hts iX3 tyX3 tyX3_ok nmX3 hx hb hown hin2 hK hP hD hS 0 rfl rfl hJ 3 (by decide) (by decide) rfl (hts _ (bP 336 rfl)) rfl (ty := .object "MeetingHouse$Text") (by decide +kernel) (v := .ref a2) rfl rfl dX3_init_76 (fun f h => kJ_set h _ _ rfl) (fun H locs fs hJ hP hD hS => ?_)
  have hP : va_P (dC, dI) vwCl [(h0, .inr (3, fs)), (o2, .inr (1, gH_)), (qp, .inl (cp, 80, .inr (.inr (.inr (.inr fp)))))] H := hP
  have hD : va_D A [(h0, .inr (3, fs)), (o2, .inr (1, gH_)), (qp, .inl (cp, 80, .inr (.inr (.inr (.inr fp)))))] := hD
  refine lv_aload_n hx hb dX3_init_79 rfl (lv_at hl 0 rfl) ?_
  refine lv_aload_n hx hb dX3_init_80 rfl (lv_at hl 0 rfl) ?_
  refine va_get (D := (dC, dI)) (ci := 3) (v := .ref o2) (C := RX3) (T := TX3) (N := 21) hx hb hts iX3 hown hK hP 0 rfl rfl 5 (by decide) (hts _ (bP 329 rfl)) (fun _ h9 => h9) (kJ_at hJ 0 rfl) dX3_init_81 ?_
  refine va_get (D := (dC, dI)) (ci := 1) (v := .ref qp) (C := RX1) (T := TX1) (N := 16) hx hb hts iX1 hown hK hP 1 rfl rfl 0 (by decide) (hts _ (bP 337 rfl)) (fun _ h9 => h9) (kJ_at hGH 0 rfl) dX3_init_84 ?_
  refine lv_iconst (v := 0) hx hb dX3_init_87 (by decide) ?_
  obtain ⟨q0_, hq0⟩ := hfp
  refine kq_aald hx hb hK hP 2 0 rfl rfl hq0 (by unfold vp_in; decide) dX3_init_88 ?_
  refine kq_put [(5, .ref o2), (0, .int 0)] hts iX3 tyX3 tyX3_ok nmX3 hx hb hown hK hP hD hS 0 rfl rfl hJ 10 (by decide) (by decide) (hts _ (bP 338 rfl)) rfl (ty := .object "MeetingHouse$Proc") (by decide +kernel) (v := .ref q0_) rfl rfl dX3_init_89 (fun f h => kJ_set h _ _ rfl) (fun H locs fs hJ hP hD hS => ?_)
  have hP : va_P (dC, dI) vwCl [(h0, .inr (3, fs)), (o2, .inr (1, gH_)), (qp, .inl (cp, 80, .inr (.inr (.inr (.inr fp)))))] H := hP
  have hD : va_D A [(h0, .inr (3, fs)), (o2, .inr (1, gH_)), (qp, .inl (cp, 80, .inr (.inr (.inr (.inr fp)))))] := hD
  refine W.widen (k := 260) (n := 38361) (Nat.le_of_ble_eq_true rfl) (Nat.le_of_ble_eq_true rfl) ?_
  exact W.vret hx hb hr (fun t ht hW => ⟨⟨fs, rfl, kJ_sub hJ (by simp), by rw [ht]; exact hP.sub (ws' := [(h0, .inr (3, fs))]) [0] rfl, va_K.moved hW.alike (hK.sub (tys' := []) [] rfl), hD.sub (ws' := [(h0, .inr (3, fs))]) [0] (by decide) rfl⟩, hS.F ht⟩) hS.2.2 dX3_init_92
end
section
/-! The class: MeetingHouse() -/
theorem dX11_init_0 : decode cX11_init 0 = .ok (.aload_n 0, 1) := by decide +kernel
theorem dX11_init_1 : decode cX11_init 1 = .ok (.invokespecial 3, 3) := by decide +kernel
theorem dX11_init_4 : decode cX11_init 4 = .ok (.aload_n 0, 1) := by decide +kernel
theorem dX11_init_5 : decode cX11_init 5 = .ok (.new 9, 3) := by decide +kernel
theorem dX11_init_8 : decode cX11_init 8 = .ok (.dup, 1) := by decide +kernel
theorem dX11_init_9 : decode cX11_init 9 = .ok (.invokespecial 11, 3) := by decide +kernel
theorem dX11_init_12 : decode cX11_init 12 = .ok (.putfield 12, 3) := by decide +kernel
theorem dX11_init_15 : decode cX11_init 15 = .ok (.aload_n 0, 1) := by decide +kernel
theorem dX11_init_16 : decode cX11_init 16 = .ok (.new 16, 3) := by decide +kernel
theorem dX11_init_19 : decode cX11_init 19 = .ok (.dup, 1) := by decide +kernel
theorem dX11_init_20 : decode cX11_init 20 = .ok (.aload_n 0, 1) := by decide +kernel
theorem dX11_init_21 : decode cX11_init 21 = .ok (.getfield 12, 3) := by decide +kernel
theorem dX11_init_24 : decode cX11_init 24 = .ok (.invokespecial 18, 3) := by decide +kernel
theorem dX11_init_27 : decode cX11_init 27 = .ok (.putfield 21, 3) := by decide +kernel
theorem dX11_init_30 : decode cX11_init 30 = .ok (.aload_n 0, 1) := by decide +kernel
theorem dX11_init_31 : decode cX11_init 31 = .ok (.new 25, 3) := by decide +kernel
theorem dX11_init_34 : decode cX11_init 34 = .ok (.dup, 1) := by decide +kernel
theorem dX11_init_35 : decode cX11_init 35 = .ok (.aload_n 0, 1) := by decide +kernel
theorem dX11_init_36 : decode cX11_init 36 = .ok (.getfield 21, 3) := by decide +kernel
theorem dX11_init_39 : decode cX11_init 39 = .ok (.invokespecial 27, 3) := by decide +kernel
theorem dX11_init_42 : decode cX11_init 42 = .ok (.putfield 30, 3) := by decide +kernel
theorem dX11_init_45 : decode cX11_init 45 = .ok (.aload_n 0, 1) := by decide +kernel
theorem dX11_init_46 : decode cX11_init 46 = .ok (.new 34, 3) := by decide +kernel
theorem dX11_init_49 : decode cX11_init 49 = .ok (.dup, 1) := by decide +kernel
theorem dX11_init_50 : decode cX11_init 50 = .ok (.aload_n 0, 1) := by decide +kernel
theorem dX11_init_51 : decode cX11_init 51 = .ok (.getfield 21, 3) := by decide +kernel
theorem dX11_init_54 : decode cX11_init 54 = .ok (.aload_n 0, 1) := by decide +kernel
theorem dX11_init_55 : decode cX11_init 55 = .ok (.getfield 30, 3) := by decide +kernel
theorem dX11_init_58 : decode cX11_init 58 = .ok (.invokespecial 36, 3) := by decide +kernel
theorem dX11_init_61 : decode cX11_init 61 = .ok (.putfield 39, 3) := by decide +kernel
theorem dX11_init_64 : decode cX11_init 64 = .ok (.aload_n 0, 1) := by decide +kernel
theorem dX11_init_65 : decode cX11_init 65 = .ok (.new 43, 3) := by decide +kernel
theorem dX11_init_68 : decode cX11_init 68 = .ok (.dup, 1) := by decide +kernel
theorem dX11_init_69 : decode cX11_init 69 = .ok (.aload_n 0, 1) := by decide +kernel
theorem dX11_init_70 : decode cX11_init 70 = .ok (.getfield 21, 3) := by decide +kernel
theorem dX11_init_73 : decode cX11_init 73 = .ok (.aload_n 0, 1) := by decide +kernel
theorem dX11_init_74 : decode cX11_init 74 = .ok (.getfield 30, 3) := by decide +kernel
theorem dX11_init_77 : decode cX11_init 77 = .ok (.invokespecial 45, 3) := by decide +kernel
theorem dX11_init_80 : decode cX11_init 80 = .ok (.putfield 46, 3) := by decide +kernel
theorem dX11_init_83 : decode cX11_init 83 = .ok (.aload_n 0, 1) := by decide +kernel
theorem dX11_init_84 : decode cX11_init 84 = .ok (.new 50, 3) := by decide +kernel
theorem dX11_init_87 : decode cX11_init 87 = .ok (.dup, 1) := by decide +kernel
theorem dX11_init_88 : decode cX11_init 88 = .ok (.aload_n 0, 1) := by decide +kernel
theorem dX11_init_89 : decode cX11_init 89 = .ok (.getfield 21, 3) := by decide +kernel
theorem dX11_init_92 : decode cX11_init 92 = .ok (.aload_n 0, 1) := by decide +kernel
theorem dX11_init_93 : decode cX11_init 93 = .ok (.getfield 30, 3) := by decide +kernel
theorem dX11_init_96 : decode cX11_init 96 = .ok (.aload_n 0, 1) := by decide +kernel
theorem dX11_init_97 : decode cX11_init 97 = .ok (.getfield 46, 3) := by decide +kernel
theorem dX11_init_100 : decode cX11_init 100 = .ok (.invokespecial 52, 3) := by decide +kernel
theorem dX11_init_103 : decode cX11_init 103 = .ok (.putfield 55, 3) := by decide +kernel
theorem dX11_init_106 : decode cX11_init 106 = .ok (.aload_n 0, 1) := by decide +kernel
theorem dX11_init_107 : decode cX11_init 107 = .ok (.new 59, 3) := by decide +kernel
theorem dX11_init_110 : decode cX11_init 110 = .ok (.dup, 1) := by decide +kernel
theorem dX11_init_111 : decode cX11_init 111 = .ok (.aload_n 0, 1) := by decide +kernel
theorem dX11_init_112 : decode cX11_init 112 = .ok (.getfield 21, 3) := by decide +kernel
theorem dX11_init_115 : decode cX11_init 115 = .ok (.aload_n 0, 1) := by decide +kernel
theorem dX11_init_116 : decode cX11_init 116 = .ok (.getfield 30, 3) := by decide +kernel
theorem dX11_init_119 : decode cX11_init 119 = .ok (.invokespecial 61, 3) := by decide +kernel
theorem dX11_init_122 : decode cX11_init 122 = .ok (.putfield 62, 3) := by decide +kernel
theorem dX11_init_125 : decode cX11_init 125 = .ok (.aload_n 0, 1) := by decide +kernel
theorem dX11_init_126 : decode cX11_init 126 = .ok (.new 66, 3) := by decide +kernel
theorem dX11_init_129 : decode cX11_init 129 = .ok (.dup, 1) := by decide +kernel
theorem dX11_init_130 : decode cX11_init 130 = .ok (.aload_n 0, 1) := by decide +kernel
theorem dX11_init_131 : decode cX11_init 131 = .ok (.getfield 62, 3) := by decide +kernel
theorem dX11_init_134 : decode cX11_init 134 = .ok (.aload_n 0, 1) := by decide +kernel
theorem dX11_init_135 : decode cX11_init 135 = .ok (.getfield 12, 3) := by decide +kernel
theorem dX11_init_138 : decode cX11_init 138 = .ok (.invokespecial 68, 3) := by decide +kernel
theorem dX11_init_141 : decode cX11_init 141 = .ok (.putfield 71, 3) := by decide +kernel
theorem dX11_init_144 : decode cX11_init 144 = .ok (.aload_n 0, 1) := by decide +kernel
theorem dX11_init_145 : decode cX11_init 145 = .ok (.iconst 0, 1) := by decide +kernel
theorem dX11_init_146 : decode cX11_init 146 = .ok (.putfield 75, 3) := by decide +kernel
theorem dX11_init_149 : decode cX11_init 149 = .ok (.return_, 1) := by decide +kernel
abbrev xU : Type := List Value × List Value × List Value × List Value × Nat × Nat × Nat × Nat × Nat × Nat × Nat × Nat × Nat × Nat × Nat × Nat × ClassId × ClassId × ClassId × ClassId × ClassId × ClassId × ClassId × ClassId × ClassId
/-- a new MeetingHouse: its fields, its text, tree and machine -/
abbrev xPost (v : xU) : Prop := match v with
  | (fx, ft, fr, fm, qt, qr, qm, t_tape, t_kind, t_value, t_line, t_blanks, t_letters, t_nameFrom, t_nameNext, t_bucket, ct_tape, ct_kind, ct_value, ct_line, ct_blanks, ct_letters, ct_nameFrom, ct_nameNext, ct_bucket) => kJ 9 [(8, .int 0), (7, .ref qm), (1, .ref qr), (0, .ref qt)] fx ∧ kJ 19 [(0, .ref t_tape), (2, .ref t_kind), (3, .ref t_value), (4, .ref t_line), (5, .ref t_blanks), (14, .ref t_letters), (15, .ref t_nameFrom), (16, .ref t_nameNext), (17, .ref t_bucket), (1, .int 0)] ft ∧ kJ 17 [(12, .ref qt)] fr ∧ kJ 21 [(0, .int 0)] fm
abbrev xW (h0 : Nat) (v : xU) : va_W := match v with
  | (fx, ft, fr, fm, qt, qr, qm, t_tape, t_kind, t_value, t_line, t_blanks, t_letters, t_nameFrom, t_nameNext, t_bucket, ct_tape, ct_kind, ct_value, ct_line, ct_blanks, ct_letters, ct_nameFrom, ct_nameNext, ct_bucket) => [(h0, .inr (11, fx)), (qt, .inr (7, ft)), (t_tape, .inl (ct_tape, 6000, .inl (fun _ => 0))), (t_kind, .inl (ct_kind, 6010, .inl (fun _ => 0))), (t_value, .inl (ct_value, 6010, .inl (fun _ => 0))), (t_line, .inl (ct_line, 6010, .inl (fun _ => 0))), (t_blanks, .inl (ct_blanks, 6010, .inl (fun _ => 0))), (t_letters, .inl (ct_letters, 6400, .inl (fun _ => 0))), (t_nameFrom, .inl (ct_nameFrom, 3150, .inl (fun _ => 0))), (t_nameNext, .inl (ct_nameNext, 3150, .inl (fun _ => 0))), (t_bucket, .inl (ct_bucket, 512, .inl (fun _ => 0))), (qr, .inr (8, fr)), (qm, .inr (3, fm))]
abbrev xTy (v : xU) : List (ClassId × FieldType) := match v with
  | (fx, ft, fr, fm, qt, qr, qm, t_tape, t_kind, t_value, t_line, t_blanks, t_letters, t_nameFrom, t_nameNext, t_bucket, ct_tape, ct_kind, ct_value, ct_line, ct_blanks, ct_letters, ct_nameFrom, ct_nameNext, ct_bucket) => [(ct_tape, .byte), (ct_kind, .int), (ct_value, .int), (ct_line, .int), (ct_blanks, .int), (ct_letters, .byte), (ct_nameFrom, .int), (ct_nameNext, .int), (ct_bucket, .int)]
set_option maxHeartbeats 4000000 in
set_option maxRecDepth 100000 in
/-- MeetingHouse() -/
theorem c_MeetingHouse_init (l : Launch) (dC : Nat → ClassId) (dI : Nat → Nat → Nat) (h0 sz : Nat) (fs : List Value) : Met l yX11_init (.code yX11_init cX11_init 1 none :: wP) ({ frames := 4, cells := 323, slots := 419152, locals := 88 }) (va_Pc [.ref h0] (fun U => U.heap.size = sz ∧ kJ 9 [] fs ∧ va_P (dC, dI) vwCl [(h0, .inr (11, fs))] U.heap ∧ va_K (dC, dI) vwCl [] U ∧ va_D (fun _ => True) [(h0, .inr (11, fs))] ∧ va_AO "MeetingHouse$Proc" U ∧ va_Nw (.methodLinkNest RX3 11 yX2_init RX11) U ∧ va_Nw (.methodLinkNest RX11 11 yX7_init RX11) U)) (va_Qv xPost (fun (v : xU) (t : State) => va_P (dC, dI) vwCl (xW h0 v) t.heap ∧ va_K (dC, dI) vwCl (xTy v) t ∧ va_D (va_A [(h0, .inr (11, fs))] sz) (xW h0 v)) (va_A [(h0, .inr (11, fs))] sz)) 323 419152 (va_A [(h0, .inr (11, fs))] sz) := by
  refine Met.ofW (cc := cX11_init) (maxL := 1) (ret := none) (by decide) rfl ?_
  intro p e s m args below meth c s₁ B hml hv
  obtain ⟨rfl, hsz, hJ, hP, hK, hD0, hao, hnH, hnT⟩ := hv
  have hx := B.exec
  have hb := B.bytes
  have hr := B.returns
  have hts := atoms_spec (ws := .code yX11_init cX11_init 1 none :: wP) B.pre
  have hown : s.vm.findClass RX11 = some m.cls := findClass_of_methodNamed B.named
  subst hsz
  have hD := hD0.self (sz := s.heap.size)
  generalize hAe : va_A [(h0, .inr (11, fs))] s.heap.size = A at hD ⊢
  have hA : ∀ q : Nat, s.heap.size ≤ q → A q := fun q h => by rw [← hAe]; exact Or.inr h
  have hS : va_S A s.heap s.heap [] := va_S.rf
  have hl := lv_entry ([.ref h0]) (n := 1) (Nat.le_of_ble_eq_true rfl)
  rw [lg_entry_eq]
  generalize (lg_sl ([.ref h0]) ++ List.replicate (1 - (lg_sl ([.ref h0])).length) Slot.unset).toArray = ls at hl ⊢
  obtain ⟨H, hHe⟩ : ∃ H, H = s.heap := ⟨_, rfl⟩
  rw [← hHe] at hP ⊢
  have hS : va_S A s.heap H [] := by rw [hHe]; exact hS
  have hin2 : meth.name = "<init>" := (name_of_methodNamed B.named B.method).1
  have hl : lv_has ls 1 [(0, .ref h0)] := hl
  refine lv_aload_n hx hb dX11_init_0 rfl (lv_at hl 0 rfl) ?_
  refine W.objInit hx hb hown (hts _ (bP 340 rfl)) (hts _ (bP 1 rfl)) (hts _ (bP 2 rfl)) rfl (by rw [hml]; exact hl.1) rfl dX11_init_1 (Nat.le_of_ble_eq_true rfl) (Nat.le_of_ble_eq_true rfl) ?_
  refine W.eq (g2 := F0 m 4 ls []) rfl ?_
  refine lv_aload_n hx hb dX11_init_4 rfl (lv_at hl 0 rfl) ?_
  refine va_new (ci := 7) (fs := [.null, .int 0, .null, .null, .null, .null, .int 0, .int 0, .null, .int 0, .int 0, .int 0, .int 0, .int 0, .null, .null, .null, .null, .int 0]) (C := RX7) (T := TX7) (N := 19) hx hb hts iX7 tyX7 tyX7_ok hown (hts _ (bP 341 rfl)) (hts _ (bP 342 rfl)) (hts _ (bP 343 rfl)) hK hP hD hS hA rfl (fun j hj => by match j, hj with | 0, _ => rfl | 1, _ => rfl | 2, _ => rfl | 3, _ => rfl | 4, _ => rfl | 5, _ => rfl | 6, _ => rfl | 7, _ => rfl | 8, _ => rfl | 9, _ => rfl | 10, _ => rfl | 11, _ => rfl | 12, _ => rfl | 13, _ => rfl | 14, _ => rfl | 15, _ => rfl | 16, _ => rfl | 17, _ => rfl | 18, _ => rfl | j + 19, h => exact absurd h (by omega)) (Nat.le_of_ble_eq_true rfl) (Nat.le_of_ble_eq_true rfl) dX11_init_5 (fun o1 H hP hD hS => ?_)
  obtain ⟨g1, hg1⟩ : ∃ z : List Value, z = [.null, .int 0, .null, .null, .null, .null, .int 0, .int 0, .null, .int 0, .int 0, .int 0, .int 0, .int 0, .null, .null, .null, .null, .int 0] := ⟨_, rfl⟩
  rw [← hg1] at hP hD
  have hG1 : kJ 19 [(1, .int 0)] g1 := ⟨by rw [hg1]; rfl, fun x hx => by rw [hg1]; simp only [List.mem_cons, List.not_mem_nil, or_false] at hx; rcases hx with rfl <;> rfl⟩
  clear hg1
  have hP : va_P (dC, dI) vwCl [(h0, .inr (11, fs)), (o1, .inr (7, g1))] H := hP
  have hD : va_D A [(h0, .inr (11, fs)), (o1, .inr (7, g1))] := hD
  refine lv_dup hx hb dX11_init_8 rfl ?_
  have hPc := hP.sub (ws' := [(o1, .inr (7, g1))]) [1] rfl
  have hDc := hD.sub (ws' := [(o1, .inr (7, g1))]) [1] (by decide) rfl
  have hKc := hK.sub (tys' := []) [] rfl
  have hFc := va_free (wc := [(o1, .inr (7, g1))]) hD hS hA [1] rfl
  refine va_callv (va_runIN (As := []) (rest := [.ref o1, .ref h0]) ⟨hx, hb, hml, hown, hts⟩ (c_Text_init l dC dI o1 H.size g1) (⟨va_cnB 0 hts (gP _ 291 rfl) rfl rfl rfl hnT (hts _ (bP 343 rfl)) (by decide +kernel) ⟨Nat.le_of_ble_eq_true rfl, Nat.le_of_ble_eq_true rfl⟩, rfl, hts _ (bP 344 rfl)⟩) ⟨fun a U g mk q => by obtain ⟨q0, q1, qJ, qP, qK, qD⟩ := q; exact ⟨q0, q1, qJ, qP, va_K.moved (u := U) (U := U.calling g mk a) (Vm.Alike.refl U.vm) qK, qD⟩, fun U hU hW => ⟨rfl, by rw [hU], kJ_sub hG1 (by simp), by rw [hU]; exact hPc, va_K.moved hW.alike hKc, hDc.weaken (fun _ _ _ _ => trivial)⟩⟩ rfl rfl hl.1 rfl (lv_room (Nat.le_of_ble_eq_true rfl)) dX11_init_9 ⟨Nat.le_of_ble_eq_true rfl, Nat.le_of_ble_eq_true rfl⟩) hS (fun q _ h => hFc q h) hFc (fun u t H1 locs ht hvm hw hB hz1 hk1 hS => ?_)
  obtain ⟨ft, t_tape, t_kind, t_value, t_line, t_blanks, t_letters, t_nameFrom, t_nameNext, t_bucket, ct_tape, ct_kind, ct_value, ct_line, ct_blanks, ct_letters, ct_nameFrom, ct_nameNext, ct_bucket⟩ := u
  have hT : kJ 19 [(0, .ref t_tape), (2, .ref t_kind), (3, .ref t_value), (4, .ref t_line), (5, .ref t_blanks), (14, .ref t_letters), (15, .ref t_nameFrom), (16, .ref t_nameNext), (17, .ref t_bucket), (1, .int 0)] ft := hw
  obtain ⟨hP1, hK1, hD1⟩ := hB
  rw [ht] at hP1
  have hK1 := va_K.moved hvm.symm hK1
  obtain ⟨hP, hD⟩ := va_join (wr := [(h0, .inr (11, fs))]) (w1 := [(o1, .inr (7, ft)), (t_tape, .inl (ct_tape, 6000, .inl (fun _ => 0))), (t_kind, .inl (ct_kind, 6010, .inl (fun _ => 0))), (t_value, .inl (ct_value, 6010, .inl (fun _ => 0))), (t_line, .inl (ct_line, 6010, .inl (fun _ => 0))), (t_blanks, .inl (ct_blanks, 6010, .inl (fun _ => 0))), (t_letters, .inl (ct_letters, 6400, .inl (fun _ => 0))), (t_nameFrom, .inl (ct_nameFrom, 3150, .inl (fun _ => 0))), (t_nameNext, .inl (ct_nameNext, 3150, .inl (fun _ => 0))), (t_bucket, .inl (ct_bucket, 512, .inl (fun _ => 0)))]) hP hD [1] [0] rfl rfl (by decide) (by decide) hk1 hFc hP1 hD1
  have hK := (hK.sub (tys' := []) [] rfl).app hK1
  clear hPc hDc hKc hFc hP1 hK1 hD1 hk1 hz1
  generalize H1 = H at hP hS ⊢
  have hP : va_P (dC, dI) vwCl [(h0, .inr (11, fs)), (o1, .inr (7, ft)), (t_tape, .inl (ct_tape, 6000, .inl (fun _ => 0))), (t_kind, .inl (ct_kind, 6010, .inl (fun _ => 0))), (t_value, .inl (ct_value, 6010, .inl (fun _ => 0))), (t_line, .inl (ct_line, 6010, .inl (fun _ => 0))), (t_blanks, .inl (ct_blanks, 6010, .inl (fun _ => 0))), (t_letters, .inl (ct_letters, 6400, .inl (fun _ => 0))), (t_nameFrom, .inl (ct_nameFrom, 3150, .inl (fun _ => 0))), (t_nameNext, .inl (ct_nameNext, 3150, .inl (fun _ => 0))), (t_bucket, .inl (ct_bucket, 512, .inl (fun _ => 0)))] H := hP
  have hD : va_D A [(h0, .inr (11, fs)), (o1, .inr (7, ft)), (t_tape, .inl (ct_tape, 6000, .inl (fun _ => 0))), (t_kind, .inl (ct_kind, 6010, .inl (fun _ => 0))), (t_value, .inl (ct_value, 6010, .inl (fun _ => 0))), (t_line, .inl (ct_line, 6010, .inl (fun _ => 0))), (t_blanks, .inl (ct_blanks, 6010, .inl (fun _ => 0))), (t_letters, .inl (ct_letters, 6400, .inl (fun _ => 0))), (t_nameFrom, .inl (ct_nameFrom, 3150, .inl (fun _ => 0))), (t_nameNext, .inl (ct_nameNext, 3150, .inl (fun _ => 0))), (t_bucket, .inl (ct_bucket, 512, .inl (fun _ => 0)))] := hD
  have hK : va_K (dC, dI) vwCl [(ct_tape, .byte), (ct_kind, .int), (ct_value, .int), (ct_line, .int), (ct_blanks, .int), (ct_letters, .byte), (ct_nameFrom, .int), (ct_nameNext, .int), (ct_bucket, .int)] s := hK
  refine kq_putF [(0, .ref o1)] hts iX11 tyX11 tyX11_ok nmX11 hx hb hown hin2 hK hP hD hS 0 rfl rfl hJ 0 (by decide) (by decide) rfl (hts _ (bP 345 rfl)) rfl (ty := .object "MeetingHouse$Text") (by decide +kernel) (v := .ref o1) rfl rfl dX11_init_12 (fun f h => kJ_put h _ _ (by decide)) (fun H locs fs hJ hP hD hS => ?_)
  have hP : va_P (dC, dI) vwCl [(h0, .inr (11, fs)), (o1, .inr (7, ft)), (t_tape, .inl (ct_tape, 6000, .inl (fun _ => 0))), (t_kind, .inl (ct_kind, 6010, .inl (fun _ => 0))), (t_value, .inl (ct_value, 6010, .inl (fun _ => 0))), (t_line, .inl (ct_line, 6010, .inl (fun _ => 0))), (t_blanks, .inl (ct_blanks, 6010, .inl (fun _ => 0))), (t_letters, .inl (ct_letters, 6400, .inl (fun _ => 0))), (t_nameFrom, .inl (ct_nameFrom, 3150, .inl (fun _ => 0))), (t_nameNext, .inl (ct_nameNext, 3150, .inl (fun _ => 0))), (t_bucket, .inl (ct_bucket, 512, .inl (fun _ => 0)))] H := hP
  have hD : va_D A [(h0, .inr (11, fs)), (o1, .inr (7, ft)), (t_tape, .inl (ct_tape, 6000, .inl (fun _ => 0))), (t_kind, .inl (ct_kind, 6010, .inl (fun _ => 0))), (t_value, .inl (ct_value, 6010, .inl (fun _ => 0))), (t_line, .inl (ct_line, 6010, .inl (fun _ => 0))), (t_blanks, .inl (ct_blanks, 6010, .inl (fun _ => 0))), (t_letters, .inl (ct_letters, 6400, .inl (fun _ => 0))), (t_nameFrom, .inl (ct_nameFrom, 3150, .inl (fun _ => 0))), (t_nameNext, .inl (ct_nameNext, 3150, .inl (fun _ => 0))), (t_bucket, .inl (ct_bucket, 512, .inl (fun _ => 0)))] := hD
  refine lv_aload_n hx hb dX11_init_15 rfl (lv_at hl 0 rfl) ?_
  refine va_new (ci := 8) (fs := [.null, .null, .null, .null, .null, .null, .null, .null, .null, .null, .int 0, .int 0, .null, .int 0, .int 0, .int 0, .int 0]) (C := RX8) (T := TX8) (N := 17) hx hb hts iX8 tyX8 tyX8_ok hown (hts _ (bP 346 rfl)) (hts _ (bP 347 rfl)) (hts _ (bP 348 rfl)) hK hP hD hS hA rfl (fun j hj => by match j, hj with | 0, _ => rfl | 1, _ => rfl | 2, _ => rfl | 3, _ => rfl | 4, _ => rfl | 5, _ => rfl | 6, _ => rfl | 7, _ => rfl | 8, _ => rfl | 9, _ => rfl | 10, _ => rfl | 11, _ => rfl | 12, _ => rfl | 13, _ => rfl | 14, _ => rfl | 15, _ => rfl | 16, _ => rfl | j + 17, h => exact absurd h (by omega)) (Nat.le_of_ble_eq_true rfl) (Nat.le_of_ble_eq_true rfl) dX11_init_16 (fun o2 H hP hD hS => ?_)
  obtain ⟨g2, hg2⟩ : ∃ z : List Value, z = [.null, .null, .null, .null, .null, .null, .null, .null, .null, .null, .int 0, .int 0, .null, .int 0, .int 0, .int 0, .int 0] := ⟨_, rfl⟩
  rw [← hg2] at hP hD
  have hG2 : kJ 17 [] g2 := ⟨by rw [hg2]; rfl, fun x hx => absurd hx List.not_mem_nil⟩
  clear hg2
  have hP : va_P (dC, dI) vwCl [(h0, .inr (11, fs)), (o1, .inr (7, ft)), (t_tape, .inl (ct_tape, 6000, .inl (fun _ => 0))), (t_kind, .inl (ct_kind, 6010, .inl (fun _ => 0))), (t_value, .inl (ct_value, 6010, .inl (fun _ => 0))), (t_line, .inl (ct_line, 6010, .inl (fun _ => 0))), (t_blanks, .inl (ct_blanks, 6010, .inl (fun _ => 0))), (t_letters, .inl (ct_letters, 6400, .inl (fun _ => 0))), (t_nameFrom, .inl (ct_nameFrom, 3150, .inl (fun _ => 0))), (t_nameNext, .inl (ct_nameNext, 3150, .inl (fun _ => 0))), (t_bucket, .inl (ct_bucket, 512, .inl (fun _ => 0))), (o2, .inr (8, g2))] H := hP
  have hD : va_D A [(h0, .inr (11, fs)), (o1, .inr (7, ft)), (t_tape, .inl (ct_tape, 6000, .inl (fun _ => 0))), (t_kind, .inl (ct_kind, 6010, .inl (fun _ => 0))), (t_value, .inl (ct_value, 6010, .inl (fun _ => 0))), (t_line, .inl (ct_line, 6010, .inl (fun _ => 0))), (t_blanks, .inl (ct_blanks, 6010, .inl (fun _ => 0))), (t_letters, .inl (ct_letters, 6400, .inl (fun _ => 0))), (t_nameFrom, .inl (ct_nameFrom, 3150, .inl (fun _ => 0))), (t_nameNext, .inl (ct_nameNext, 3150, .inl (fun _ => 0))), (t_bucket, .inl (ct_bucket, 512, .inl (fun _ => 0))), (o2, .inr (8, g2))] := hD
  refine lv_dup hx hb dX11_init_19 rfl ?_
  refine lv_aload_n hx hb dX11_init_20 rfl (lv_at hl 0 rfl) ?_
  refine va_get (D := (dC, dI)) (ci := 11) (v := .ref o1) (C := RX11) (T := TX11) (N := 9) hx hb hts iX11 hown hK hP 0 rfl rfl 0 (by decide) (hts _ (bP 345 rfl)) (fun _ h9 => h9) (kJ_at hJ 0 rfl) dX11_init_21 ?_
  have hPc := hP.sub (ws' := [(o2, .inr (8, g2))]) [11] rfl
  have hDc := hD.sub (ws' := [(o2, .inr (8, g2))]) [11] (by decide) rfl
  have hKc := hK.sub (tys' := []) [] rfl
  have hFc := va_free (wc := [(o2, .inr (8, g2))]) hD hS hA [11] rfl
  refine va_callv (va_runI (As := [.ref o1]) (rest := [.ref o2, .ref h0]) ⟨hx, hb, hml, hown, hts⟩ (c_Tree_init l dC dI o2 H.size g2 o1) (cwI 1 hts (gP _ 278 rfl) rfl rfl rfl (hts _ (bP 348 rfl)) (hts _ (bP 349 rfl)) (hts _ (bP 350 rfl)) rfl (by decide +kernel) ⟨Nat.le_of_ble_eq_true rfl, Nat.le_of_ble_eq_true rfl⟩) ⟨fun a U g mk q => by obtain ⟨q0, q1, qJ, qP, qK, qD⟩ := q; exact ⟨q0, q1, qJ, qP, va_K.moved (u := U) (U := U.calling g mk a) (Vm.Alike.refl U.vm) qK, qD⟩, fun U hU hW => ⟨rfl, by rw [hU], kJ_sub hG2 (by simp), by rw [hU]; exact hPc, va_K.moved hW.alike hKc, hDc.weaken (fun _ _ _ _ => trivial)⟩⟩ rfl rfl hl.1 rfl (lv_room (Nat.le_of_ble_eq_true rfl)) dX11_init_24 ⟨Nat.le_of_ble_eq_true rfl, Nat.le_of_ble_eq_true rfl⟩) hS (fun q _ h => hFc q h) hFc (fun u t H1 locs ht hvm hw hB hz1 hk1 hS => ?_)
  obtain ⟨fr, hfr⟩ : ∃ z, z = u := ⟨_, rfl⟩
  rw [← hfr] at hB hw
  clear hfr
  have hR : kJ 17 [(12, .ref o1)] fr := hw
  obtain ⟨hP1, hK1, hD1⟩ := hB
  rw [ht] at hP1
  have hK1 := va_K.moved hvm.symm hK1
  obtain ⟨hP, hD⟩ := va_join (wr := [(h0, .inr (11, fs)), (o1, .inr (7, ft)), (t_tape, .inl (ct_tape, 6000, .inl (fun _ => 0))), (t_kind, .inl (ct_kind, 6010, .inl (fun _ => 0))), (t_value, .inl (ct_value, 6010, .inl (fun _ => 0))), (t_line, .inl (ct_line, 6010, .inl (fun _ => 0))), (t_blanks, .inl (ct_blanks, 6010, .inl (fun _ => 0))), (t_letters, .inl (ct_letters, 6400, .inl (fun _ => 0))), (t_nameFrom, .inl (ct_nameFrom, 3150, .inl (fun _ => 0))), (t_nameNext, .inl (ct_nameNext, 3150, .inl (fun _ => 0))), (t_bucket, .inl (ct_bucket, 512, .inl (fun _ => 0)))]) (w1 := [(o2, .inr (8, fr))]) hP hD [11] [0, 1, 2, 3, 4, 5, 6, 7, 8, 9, 10] rfl rfl (by decide) (by decide) hk1 hFc hP1 hD1
  have hK := (hK.sub (tys' := [(ct_tape, .byte), (ct_kind, .int), (ct_value, .int), (ct_line, .int), (ct_blanks, .int), (ct_letters, .byte), (ct_nameFrom, .int), (ct_nameNext, .int), (ct_bucket, .int)]) [0, 1, 2, 3, 4, 5, 6, 7, 8] rfl).app hK1
  clear hPc hDc hKc hFc hP1 hK1 hD1 hk1 hz1
  generalize H1 = H at hP hS ⊢
  have hP : va_P (dC, dI) vwCl [(h0, .inr (11, fs)), (o1, .inr (7, ft)), (t_tape, .inl (ct_tape, 6000, .inl (fun _ => 0))), (t_kind, .inl (ct_kind, 6010, .inl (fun _ => 0))), (t_value, .inl (ct_value, 6010, .inl (fun _ => 0))), (t_line, .inl (ct_line, 6010, .inl (fun _ => 0))), (t_blanks, .inl (ct_blanks, 6010, .inl (fun _ => 0))), (t_letters, .inl (ct_letters, 6400, .inl (fun _ => 0))), (t_nameFrom, .inl (ct_nameFrom, 3150, .inl (fun _ => 0))), (t_nameNext, .inl (ct_nameNext, 3150, .inl (fun _ => 0))), (t_bucket, .inl (ct_bucket, 512, .inl (fun _ => 0))), (o2, .inr (8, fr))] H := hP
  have hD : va_D A [(h0, .inr (11, fs)), (o1, .inr (7, ft)), (t_tape, .inl (ct_tape, 6000, .inl (fun _ => 0))), (t_kind, .inl (ct_kind, 6010, .inl (fun _ => 0))), (t_value, .inl (ct_value, 6010, .inl (fun _ => 0))), (t_line, .inl (ct_line, 6010, .inl (fun _ => 0))), (t_blanks, .inl (ct_blanks, 6010, .inl (fun _ => 0))), (t_letters, .inl (ct_letters, 6400, .inl (fun _ => 0))), (t_nameFrom, .inl (ct_nameFrom, 3150, .inl (fun _ => 0))), (t_nameNext, .inl (ct_nameNext, 3150, .inl (fun _ => 0))), (t_bucket, .inl (ct_bucket, 512, .inl (fun _ => 0))), (o2, .inr (8, fr))] := hD
  have hK : va_K (dC, dI) vwCl [(ct_tape, .byte), (ct_kind, .int), (ct_value, .int), (ct_line, .int), (ct_blanks, .int), (ct_letters, .byte), (ct_nameFrom, .int), (ct_nameNext, .int), (ct_bucket, .int)] s := hK
  refine kq_putF [(1, .ref o2), (0, .ref o1)] hts iX11 tyX11 tyX11_ok nmX11 hx hb hown hin2 hK hP hD hS 0 rfl rfl hJ 1 (by decide) (by decide) rfl (hts _ (bP 351 rfl)) rfl (ty := .object "MeetingHouse$Tree") (by decide +kernel) (v := .ref o2) rfl rfl dX11_init_27 (fun f h => kJ_put h _ _ (by decide)) (fun H locs fs hJ hP hD hS => ?_)
  have hP : va_P (dC, dI) vwCl [(h0, .inr (11, fs)), (o1, .inr (7, ft)), (t_tape, .inl (ct_tape, 6000, .inl (fun _ => 0))), (t_kind, .inl (ct_kind, 6010, .inl (fun _ => 0))), (t_value, .inl (ct_value, 6010, .inl (fun _ => 0))), (t_line, .inl (ct_line, 6010, .inl (fun _ => 0))), (t_blanks, .inl (ct_blanks, 6010, .inl (fun _ => 0))), (t_letters, .inl (ct_letters, 6400, .inl (fun _ => 0))), (t_nameFrom, .inl (ct_nameFrom, 3150, .inl (fun _ => 0))), (t_nameNext, .inl (ct_nameNext, 3150, .inl (fun _ => 0))), (t_bucket, .inl (ct_bucket, 512, .inl (fun _ => 0))), (o2, .inr (8, fr))] H := hP
  have hD : va_D A [(h0, .inr (11, fs)), (o1, .inr (7, ft)), (t_tape, .inl (ct_tape, 6000, .inl (fun _ => 0))), (t_kind, .inl (ct_kind, 6010, .inl (fun _ => 0))), (t_value, .inl (ct_value, 6010, .inl (fun _ => 0))), (t_line, .inl (ct_line, 6010, .inl (fun _ => 0))), (t_blanks, .inl (ct_blanks, 6010, .inl (fun _ => 0))), (t_letters, .inl (ct_letters, 6400, .inl (fun _ => 0))), (t_nameFrom, .inl (ct_nameFrom, 3150, .inl (fun _ => 0))), (t_nameNext, .inl (ct_nameNext, 3150, .inl (fun _ => 0))), (t_bucket, .inl (ct_bucket, 512, .inl (fun _ => 0))), (o2, .inr (8, fr))] := hD
  refine lv_aload_n hx hb dX11_init_30 rfl (lv_at hl 0 rfl) ?_
  refine va_new (ci := 4) (fs := [.null, .null, .null, .null, .null, .null, .null, .int 0, .null, .null, .null, .null, .null, .null, .int 0, .int 0]) (C := RX4) (T := TX4) (N := 16) hx hb hts iX4 tyX4 tyX4_ok hown (hts _ (bP 352 rfl)) (hts _ (bP 353 rfl)) (hts _ (bP 354 rfl)) hK hP hD hS hA rfl (fun j hj => by match j, hj with | 0, _ => rfl | 1, _ => rfl | 2, _ => rfl | 3, _ => rfl | 4, _ => rfl | 5, _ => rfl | 6, _ => rfl | 7, _ => rfl | 8, _ => rfl | 9, _ => rfl | 10, _ => rfl | 11, _ => rfl | 12, _ => rfl | 13, _ => rfl | 14, _ => rfl | 15, _ => rfl | j + 16, h => exact absurd h (by omega)) (Nat.le_of_ble_eq_true rfl) (Nat.le_of_ble_eq_true rfl) dX11_init_31 (fun o3 H hP hD hS => ?_)
  obtain ⟨g3, hg3⟩ : ∃ z : List Value, z = [.null, .null, .null, .null, .null, .null, .null, .int 0, .null, .null, .null, .null, .null, .null, .int 0, .int 0] := ⟨_, rfl⟩
  rw [← hg3] at hP hD
  have hG3 : kJ 16 [] g3 := ⟨by rw [hg3]; rfl, fun x hx => absurd hx List.not_mem_nil⟩
  clear hg3
  have hP : va_P (dC, dI) vwCl [(h0, .inr (11, fs)), (o1, .inr (7, ft)), (t_tape, .inl (ct_tape, 6000, .inl (fun _ => 0))), (t_kind, .inl (ct_kind, 6010, .inl (fun _ => 0))), (t_value, .inl (ct_value, 6010, .inl (fun _ => 0))), (t_line, .inl (ct_line, 6010, .inl (fun _ => 0))), (t_blanks, .inl (ct_blanks, 6010, .inl (fun _ => 0))), (t_letters, .inl (ct_letters, 6400, .inl (fun _ => 0))), (t_nameFrom, .inl (ct_nameFrom, 3150, .inl (fun _ => 0))), (t_nameNext, .inl (ct_nameNext, 3150, .inl (fun _ => 0))), (t_bucket, .inl (ct_bucket, 512, .inl (fun _ => 0))), (o2, .inr (8, fr)), (o3, .inr (4, g3))] H := hP
  have hD : va_D A [(h0, .inr (11, fs)), (o1, .inr (7, ft)), (t_tape, .inl (ct_tape, 6000, .inl (fun _ => 0))), (t_kind, .inl (ct_kind, 6010, .inl (fun _ => 0))), (t_value, .inl (ct_value, 6010, .inl (fun _ => 0))), (t_line, .inl (ct_line, 6010, .inl (fun _ => 0))), (t_blanks, .inl (ct_blanks, 6010, .inl (fun _ => 0))), (t_letters, .inl (ct_letters, 6400, .inl (fun _ => 0))), (t_nameFrom, .inl (ct_nameFrom, 3150, .inl (fun _ => 0))), (t_nameNext, .inl (ct_nameNext, 3150, .inl (fun _ => 0))), (t_bucket, .inl (ct_bucket, 512, .inl (fun _ => 0))), (o2, .inr (8, fr)), (o3, .inr (4, g3))] := hD
  refine lv_dup hx hb dX11_init_34 rfl ?_
  refine lv_aload_n hx hb dX11_init_35 rfl (lv_at hl 0 rfl) ?_
  refine va_get (D := (dC, dI)) (ci := 11) (v := .ref o2) (C := RX11) (T := TX11) (N := 9) hx hb hts iX11 hown hK hP 0 rfl rfl 1 (by decide) (hts _ (bP 351 rfl)) (fun _ h9 => h9) (kJ_at hJ 0 rfl) dX11_init_36 ?_
  have hPc := hP.sub (ws' := [(o3, .inr (4, g3))]) [12] rfl
  have hDc := hD.sub (ws' := [(o3, .inr (4, g3))]) [12] (by decide) rfl
  have hKc := hK.sub (tys' := []) [] rfl
  have hFc := va_free (wc := [(o3, .inr (4, g3))]) hD hS hA [12] rfl
  refine va_callv (va_runI (As := [.ref o2]) (rest := [.ref o3, .ref h0]) ⟨hx, hb, hml, hown, hts⟩ (c_Names_init l dC dI o3 H.size g3 o2) (cwI 1 hts (gP _ 220 rfl) rfl rfl rfl (hts _ (bP 354 rfl)) (hts _ (bP 355 rfl)) (hts _ (bP 356 rfl)) rfl (by decide +kernel) ⟨Nat.le_of_ble_eq_true rfl, Nat.le_of_ble_eq_true rfl⟩) ⟨fun a U g mk q => by obtain ⟨q0, q1, qJ, qP, qK, qD⟩ := q; exact ⟨q0, q1, qJ, qP, va_K.moved (u := U) (U := U.calling g mk a) (Vm.Alike.refl U.vm) qK, qD⟩, fun U hU hW => ⟨rfl, by rw [hU], kJ_sub hG3 (by simp), by rw [hU]; exact hPc, va_K.moved hW.alike hKc, hDc.weaken (fun _ _ _ _ => trivial)⟩⟩ rfl rfl hl.1 rfl (lv_room (Nat.le_of_ble_eq_true rfl)) dX11_init_39 ⟨Nat.le_of_ble_eq_true rfl, Nat.le_of_ble_eq_true rfl⟩) hS (fun q _ h => hFc q h) hFc (fun u t H1 locs ht hvm hw hB hz1 hk1 hS => ?_)
  obtain ⟨hP, hD⟩ := va_join (wr := [(h0, .inr (11, fs)), (o1, .inr (7, ft)), (t_tape, .inl (ct_tape, 6000, .inl (fun _ => 0))), (t_kind, .inl (ct_kind, 6010, .inl (fun _ => 0))), (t_value, .inl (ct_value, 6010, .inl (fun _ => 0))), (t_line, .inl (ct_line, 6010, .inl (fun _ => 0))), (t_blanks, .inl (ct_blanks, 6010, .inl (fun _ => 0))), (t_letters, .inl (ct_letters, 6400, .inl (fun _ => 0))), (t_nameFrom, .inl (ct_nameFrom, 3150, .inl (fun _ => 0))), (t_nameNext, .inl (ct_nameNext, 3150, .inl (fun _ => 0))), (t_bucket, .inl (ct_bucket, 512, .inl (fun _ => 0))), (o2, .inr (8, fr))]) (w1 := []) hP hD [12] [0, 1, 2, 3, 4, 5, 6, 7, 8, 9, 10, 11] rfl rfl (by decide) (by decide) hk1 hFc (fun k q h => by simp at h) ⟨fun i j p q h => by simp at h, fun k q h => by simp at h⟩
  clear hPc hDc hKc hFc hk1 hz1 hB hw
  generalize H1 = H at hP hS ⊢
  have hP : va_P (dC, dI) vwCl [(h0, .inr (11, fs)), (o1, .inr (7, ft)), (t_tape, .inl (ct_tape, 6000, .inl (fun _ => 0))), (t_kind, .inl (ct_kind, 6010, .inl (fun _ => 0))), (t_value, .inl (ct_value, 6010, .inl (fun _ => 0))), (t_line, .inl (ct_line, 6010, .inl (fun _ => 0))), (t_blanks, .inl (ct_blanks, 6010, .inl (fun _ => 0))), (t_letters, .inl (ct_letters, 6400, .inl (fun _ => 0))), (t_nameFrom, .inl (ct_nameFrom, 3150, .inl (fun _ => 0))), (t_nameNext, .inl (ct_nameNext, 3150, .inl (fun _ => 0))), (t_bucket, .inl (ct_bucket, 512, .inl (fun _ => 0))), (o2, .inr (8, fr))] H := hP
  have hD : va_D A [(h0, .inr (11, fs)), (o1, .inr (7, ft)), (t_tape, .inl (ct_tape, 6000, .inl (fun _ => 0))), (t_kind, .inl (ct_kind, 6010, .inl (fun _ => 0))), (t_value, .inl (ct_value, 6010, .inl (fun _ => 0))), (t_line, .inl (ct_line, 6010, .inl (fun _ => 0))), (t_blanks, .inl (ct_blanks, 6010, .inl (fun _ => 0))), (t_letters, .inl (ct_letters, 6400, .inl (fun _ => 0))), (t_nameFrom, .inl (ct_nameFrom, 3150, .inl (fun _ => 0))), (t_nameNext, .inl (ct_nameNext, 3150, .inl (fun _ => 0))), (t_bucket, .inl (ct_bucket, 512, .inl (fun _ => 0))), (o2, .inr (8, fr))] := hD
  refine kq_putF [(2, .ref o3), (1, .ref o2), (0, .ref o1)] hts iX11 tyX11 tyX11_ok nmX11 hx hb hown hin2 hK hP hD hS 0 rfl rfl hJ 2 (by decide) (by decide) rfl (hts _ (bP 357 rfl)) rfl (ty := .object "MeetingHouse$Names") (by decide +kernel) (v := .ref o3) rfl rfl dX11_init_42 (fun f h => kJ_put h _ _ (by decide)) (fun H locs fs hJ hP hD hS => ?_)
  have hP : va_P (dC, dI) vwCl [(h0, .inr (11, fs)), (o1, .inr (7, ft)), (t_tape, .inl (ct_tape, 6000, .inl (fun _ => 0))), (t_kind, .inl (ct_kind, 6010, .inl (fun _ => 0))), (t_value, .inl (ct_value, 6010, .inl (fun _ => 0))), (t_line, .inl (ct_line, 6010, .inl (fun _ => 0))), (t_blanks, .inl (ct_blanks, 6010, .inl (fun _ => 0))), (t_letters, .inl (ct_letters, 6400, .inl (fun _ => 0))), (t_nameFrom, .inl (ct_nameFrom, 3150, .inl (fun _ => 0))), (t_nameNext, .inl (ct_nameNext, 3150, .inl (fun _ => 0))), (t_bucket, .inl (ct_bucket, 512, .inl (fun _ => 0))), (o2, .inr (8, fr))] H := hP
  have hD : va_D A [(h0, .inr (11, fs)), (o1, .inr (7, ft)), (t_tape, .inl (ct_tape, 6000, .inl (fun _ => 0))), (t_kind, .inl (ct_kind, 6010, .inl (fun _ => 0))), (t_value, .inl (ct_value, 6010, .inl (fun _ => 0))), (t_line, .inl (ct_line, 6010, .inl (fun _ => 0))), (t_blanks, .inl (ct_blanks, 6010, .inl (fun _ => 0))), (t_letters, .inl (ct_letters, 6400, .inl (fun _ => 0))), (t_nameFrom, .inl (ct_nameFrom, 3150, .inl (fun _ => 0))), (t_nameNext, .inl (ct_nameNext, 3150, .inl (fun _ => 0))), (t_bucket, .inl (ct_bucket, 512, .inl (fun _ => 0))), (o2, .inr (8, fr))] := hD
  refine lv_aload_n hx hb dX11_init_45 rfl (lv_at hl 0 rfl) ?_
  refine va_new (ci := 9) (fs := [.int 0, .null, .null, .null, .int 0, .int 0]) (C := RX9) (T := TX9) (N := 6) hx hb hts iX9 tyX9 tyX9_ok hown (hts _ (bP 358 rfl)) (hts _ (bP 359 rfl)) (hts _ (bP 360 rfl)) hK hP hD hS hA rfl (fun j hj => by match j, hj with | 0, _ => rfl | 1, _ => rfl | 2, _ => rfl | 3, _ => rfl | 4, _ => rfl | 5, _ => rfl | j + 6, h => exact absurd h (by omega)) (Nat.le_of_ble_eq_true rfl) (Nat.le_of_ble_eq_true rfl) dX11_init_46 (fun o4 H hP hD hS => ?_)
  obtain ⟨g4, hg4⟩ : ∃ z : List Value, z = [.int 0, .null, .null, .null, .int 0, .int 0] := ⟨_, rfl⟩
  rw [← hg4] at hP hD
  have hG4 : kJ 6 [] g4 := ⟨by rw [hg4]; rfl, fun x hx => absurd hx List.not_mem_nil⟩
  clear hg4
  have hP : va_P (dC, dI) vwCl [(h0, .inr (11, fs)), (o1, .inr (7, ft)), (t_tape, .inl (ct_tape, 6000, .inl (fun _ => 0))), (t_kind, .inl (ct_kind, 6010, .inl (fun _ => 0))), (t_value, .inl (ct_value, 6010, .inl (fun _ => 0))), (t_line, .inl (ct_line, 6010, .inl (fun _ => 0))), (t_blanks, .inl (ct_blanks, 6010, .inl (fun _ => 0))), (t_letters, .inl (ct_letters, 6400, .inl (fun _ => 0))), (t_nameFrom, .inl (ct_nameFrom, 3150, .inl (fun _ => 0))), (t_nameNext, .inl (ct_nameNext, 3150, .inl (fun _ => 0))), (t_bucket, .inl (ct_bucket, 512, .inl (fun _ => 0))), (o2, .inr (8, fr)), (o4, .inr (9, g4))] H := hP
  have hD : va_D A [(h0, .inr (11, fs)), (o1, .inr (7, ft)), (t_tape, .inl (ct_tape, 6000, .inl (fun _ => 0))), (t_kind, .inl (ct_kind, 6010, .inl (fun _ => 0))), (t_value, .inl (ct_value, 6010, .inl (fun _ => 0))), (t_line, .inl (ct_line, 6010, .inl (fun _ => 0))), (t_blanks, .inl (ct_blanks, 6010, .inl (fun _ => 0))), (t_letters, .inl (ct_letters, 6400, .inl (fun _ => 0))), (t_nameFrom, .inl (ct_nameFrom, 3150, .inl (fun _ => 0))), (t_nameNext, .inl (ct_nameNext, 3150, .inl (fun _ => 0))), (t_bucket, .inl (ct_bucket, 512, .inl (fun _ => 0))), (o2, .inr (8, fr)), (o4, .inr (9, g4))] := hD
  refine lv_dup hx hb dX11_init_49 rfl ?_
  refine lv_aload_n hx hb dX11_init_50 rfl (lv_at hl 0 rfl) ?_
  refine va_get (D := (dC, dI)) (ci := 11) (v := .ref o2) (C := RX11) (T := TX11) (N := 9) hx hb hts iX11 hown hK hP 0 rfl rfl 1 (by decide) (hts _ (bP 351 rfl)) (fun _ h9 => h9) (kJ_at hJ 1 rfl) dX11_init_51 ?_
  refine lv_aload_n hx hb dX11_init_54 rfl (lv_at hl 0 rfl) ?_
  refine va_get (D := (dC, dI)) (ci := 11) (v := .ref o3) (C := RX11) (T := TX11) (N := 9) hx hb hts iX11 hown hK hP 0 rfl rfl 2 (by decide) (hts _ (bP 357 rfl)) (fun _ h9 => h9) (kJ_at hJ 0 rfl) dX11_init_55 ?_
  have hPc := hP.sub (ws' := [(o4, .inr (9, g4))]) [12] rfl
  have hDc := hD.sub (ws' := [(o4, .inr (9, g4))]) [12] (by decide) rfl
  have hKc := hK.sub (tys' := []) [] rfl
  have hFc := va_free (wc := [(o4, .inr (9, g4))]) hD hS hA [12] rfl
  refine va_callv (va_runI (As := [.ref o2, .ref o3]) (rest := [.ref o4, .ref h0]) ⟨hx, hb, hml, hown, hts⟩ (c_Types_init l dC dI o4 H.size g4 o2 o3) (cwI 2 hts (gP _ 235 rfl) rfl rfl rfl (hts _ (bP 360 rfl)) (hts _ (bP 361 rfl)) (hts _ (bP 362 rfl)) rfl (by decide +kernel) ⟨Nat.le_of_ble_eq_true rfl, Nat.le_of_ble_eq_true rfl⟩) ⟨fun a U g mk q => by obtain ⟨q0, q1, qJ, qP, qK, qD⟩ := q; exact ⟨q0, q1, qJ, qP, va_K.moved (u := U) (U := U.calling g mk a) (Vm.Alike.refl U.vm) qK, qD⟩, fun U hU hW => ⟨rfl, by rw [hU], kJ_sub hG4 (by simp), by rw [hU]; exact hPc, va_K.moved hW.alike hKc, hDc.weaken (fun _ _ _ _ => trivial)⟩⟩ rfl rfl hl.1 rfl (lv_room (Nat.le_of_ble_eq_true rfl)) dX11_init_58 ⟨Nat.le_of_ble_eq_true rfl, Nat.le_of_ble_eq_true rfl⟩) hS (fun q _ h => hFc q h) hFc (fun u t H1 locs ht hvm hw hB hz1 hk1 hS => ?_)
  obtain ⟨hP, hD⟩ := va_join (wr := [(h0, .inr (11, fs)), (o1, .inr (7, ft)), (t_tape, .inl (ct_tape, 6000, .inl (fun _ => 0))), (t_kind, .inl (ct_kind, 6010, .inl (fun _ => 0))), (t_value, .inl (ct_value, 6010, .inl (fun _ => 0))), (t_line, .inl (ct_line, 6010, .inl (fun _ => 0))), (t_blanks, .inl (ct_blanks, 6010, .inl (fun _ => 0))), (t_letters, .inl (ct_letters, 6400, .inl (fun _ => 0))), (t_nameFrom, .inl (ct_nameFrom, 3150, .inl (fun _ => 0))), (t_nameNext, .inl (ct_nameNext, 3150, .inl (fun _ => 0))), (t_bucket, .inl (ct_bucket, 512, .inl (fun _ => 0))), (o2, .inr (8, fr))]) (w1 := []) hP hD [12] [0, 1, 2, 3, 4, 5, 6, 7, 8, 9, 10, 11] rfl rfl (by decide) (by decide) hk1 hFc (fun k q h => by simp at h) ⟨fun i j p q h => by simp at h, fun k q h => by simp at h⟩
  clear hPc hDc hKc hFc hk1 hz1 hB hw
  generalize H1 = H at hP hS ⊢
  have hP : va_P (dC, dI) vwCl [(h0, .inr (11, fs)), (o1, .inr (7, ft)), (t_tape, .inl (ct_tape, 6000, .inl (fun _ => 0))), (t_kind, .inl (ct_kind, 6010, .inl (fun _ => 0))), (t_value, .inl (ct_value, 6010, .inl (fun _ => 0))), (t_line, .inl (ct_line, 6010, .inl (fun _ => 0))), (t_blanks, .inl (ct_blanks, 6010, .inl (fun _ => 0))), (t_letters, .inl (ct_letters, 6400, .inl (fun _ => 0))), (t_nameFrom, .inl (ct_nameFrom, 3150, .inl (fun _ => 0))), (t_nameNext, .inl (ct_nameNext, 3150, .inl (fun _ => 0))), (t_bucket, .inl (ct_bucket, 512, .inl (fun _ => 0))), (o2, .inr (8, fr))] H := hP
  have hD : va_D A [(h0, .inr (11, fs)), (o1, .inr (7, ft)), (t_tape, .inl (ct_tape, 6000, .inl (fun _ => 0))), (t_kind, .inl (ct_kind, 6010, .inl (fun _ => 0))), (t_value, .inl (ct_value, 6010, .inl (fun _ => 0))), (t_line, .inl (ct_line, 6010, .inl (fun _ => 0))), (t_blanks, .inl (ct_blanks, 6010, .inl (fun _ => 0))), (t_letters, .inl (ct_letters, 6400, .inl (fun _ => 0))), (t_nameFrom, .inl (ct_nameFrom, 3150, .inl (fun _ => 0))), (t_nameNext, .inl (ct_nameNext, 3150, .inl (fun _ => 0))), (t_bucket, .inl (ct_bucket, 512, .inl (fun _ => 0))), (o2, .inr (8, fr))] := hD
  refine kq_putF [(2, .ref o3), (1, .ref o2), (0, .ref o1)] hts iX11 tyX11 tyX11_ok nmX11 hx hb hown hin2 hK hP hD hS 0 rfl rfl hJ 3 (by decide) (by decide) rfl (hts _ (bP 363 rfl)) rfl (ty := .object "MeetingHouse$Types") (by decide +kernel) (v := .ref o4) rfl rfl dX11_init_61 (fun f h => kJ_set h _ _ rfl) (fun H locs fs hJ hP hD hS => ?_)
  have hP : va_P (dC, dI) vwCl [(h0, .inr (11, fs)), (o1, .inr (7, ft)), (t_tape, .inl (ct_tape, 6000, .inl (fun _ => 0))), (t_kind, .inl (ct_kind, 6010, .inl (fun _ => 0))), (t_value, .inl (ct_value, 6010, .inl (fun _ => 0))), (t_line, .inl (ct_line, 6010, .inl (fun _ => 0))), (t_blanks, .inl (ct_blanks, 6010, .inl (fun _ => 0))), (t_letters, .inl (ct_letters, 6400, .inl (fun _ => 0))), (t_nameFrom, .inl (ct_nameFrom, 3150, .inl (fun _ => 0))), (t_nameNext, .inl (ct_nameNext, 3150, .inl (fun _ => 0))), (t_bucket, .inl (ct_bucket, 512, .inl (fun _ => 0))), (o2, .inr (8, fr))] H := hP
  have hD : va_D A [(h0, .inr (11, fs)), (o1, .inr (7, ft)), (t_tape, .inl (ct_tape, 6000, .inl (fun _ => 0))), (t_kind, .inl (ct_kind, 6010, .inl (fun _ => 0))), (t_value, .inl (ct_value, 6010, .inl (fun _ => 0))), (t_line, .inl (ct_line, 6010, .inl (fun _ => 0))), (t_blanks, .inl (ct_blanks, 6010, .inl (fun _ => 0))), (t_letters, .inl (ct_letters, 6400, .inl (fun _ => 0))), (t_nameFrom, .inl (ct_nameFrom, 3150, .inl (fun _ => 0))), (t_nameNext, .inl (ct_nameNext, 3150, .inl (fun _ => 0))), (t_bucket, .inl (ct_bucket, 512, .inl (fun _ => 0))), (o2, .inr (8, fr))] := hD
  refine lv_aload_n hx hb dX11_init_64 rfl (lv_at hl 0 rfl) ?_
  refine va_new (ci := 6) (fs := [.null, .null, .null, .null, .int 0, .null, .int 0, .null, .int 0, .null, .null, .null, .null, .null, .int 0, .int 0, .int 0]) (C := RX6) (T := TX6) (N := 17) hx hb hts iX6 tyX6 tyX6_ok hown (hts _ (bP 364 rfl)) (hts _ (bP 365 rfl)) (hts _ (bP 366 rfl)) hK hP hD hS hA rfl (fun j hj => by match j, hj with | 0, _ => rfl | 1, _ => rfl | 2, _ => rfl | 3, _ => rfl | 4, _ => rfl | 5, _ => rfl | 6, _ => rfl | 7, _ => rfl | 8, _ => rfl | 9, _ => rfl | 10, _ => rfl | 11, _ => rfl | 12, _ => rfl | 13, _ => rfl | 14, _ => rfl | 15, _ => rfl | 16, _ => rfl | j + 17, h => exact absurd h (by omega)) (Nat.le_of_ble_eq_true rfl) (Nat.le_of_ble_eq_true rfl) dX11_init_65 (fun o5 H hP hD hS => ?_)
  obtain ⟨g5, hg5⟩ : ∃ z : List Value, z = [.null, .null, .null, .null, .int 0, .null, .int 0, .null, .int 0, .null, .null, .null, .null, .null, .int 0, .int 0, .int 0] := ⟨_, rfl⟩
  rw [← hg5] at hP hD
  have hG5 : kJ 17 [] g5 := ⟨by rw [hg5]; rfl, fun x hx => absurd hx List.not_mem_nil⟩
  clear hg5
  have hP : va_P (dC, dI) vwCl [(h0, .inr (11, fs)), (o1, .inr (7, ft)), (t_tape, .inl (ct_tape, 6000, .inl (fun _ => 0))), (t_kind, .inl (ct_kind, 6010, .inl (fun _ => 0))), (t_value, .inl (ct_value, 6010, .inl (fun _ => 0))), (t_line, .inl (ct_line, 6010, .inl (fun _ => 0))), (t_blanks, .inl (ct_blanks, 6010, .inl (fun _ => 0))), (t_letters, .inl (ct_letters, 6400, .inl (fun _ => 0))), (t_nameFrom, .inl (ct_nameFrom, 3150, .inl (fun _ => 0))), (t_nameNext, .inl (ct_nameNext, 3150, .inl (fun _ => 0))), (t_bucket, .inl (ct_bucket, 512, .inl (fun _ => 0))), (o2, .inr (8, fr)), (o5, .inr (6, g5))] H := hP
  have hD : va_D A [(h0, .inr (11, fs)), (o1, .inr (7, ft)), (t_tape, .inl (ct_tape, 6000, .inl (fun _ => 0))), (t_kind, .inl (ct_kind, 6010, .inl (fun _ => 0))), (t_value, .inl (ct_value, 6010, .inl (fun _ => 0))), (t_line, .inl (ct_line, 6010, .inl (fun _ => 0))), (t_blanks, .inl (ct_blanks, 6010, .inl (fun _ => 0))), (t_letters, .inl (ct_letters, 6400, .inl (fun _ => 0))), (t_nameFrom, .inl (ct_nameFrom, 3150, .inl (fun _ => 0))), (t_nameNext, .inl (ct_nameNext, 3150, .inl (fun _ => 0))), (t_bucket, .inl (ct_bucket, 512, .inl (fun _ => 0))), (o2, .inr (8, fr)), (o5, .inr (6, g5))] := hD
  refine lv_dup hx hb dX11_init_68 rfl ?_
  refine lv_aload_n hx hb dX11_init_69 rfl (lv_at hl 0 rfl) ?_
  refine va_get (D := (dC, dI)) (ci := 11) (v := .ref o2) (C := RX11) (T := TX11) (N := 9) hx hb hts iX11 hown hK hP 0 rfl rfl 1 (by decide) (hts _ (bP 351 rfl)) (fun _ h9 => h9) (kJ_at hJ 1 rfl) dX11_init_70 ?_
  refine lv_aload_n hx hb dX11_init_73 rfl (lv_at hl 0 rfl) ?_
  refine va_get (D := (dC, dI)) (ci := 11) (v := .ref o3) (C := RX11) (T := TX11) (N := 9) hx hb hts iX11 hown hK hP 0 rfl rfl 2 (by decide) (hts _ (bP 357 rfl)) (fun _ h9 => h9) (kJ_at hJ 0 rfl) dX11_init_74 ?_
  have hPc := hP.sub (ws' := [(o5, .inr (6, g5))]) [12] rfl
  have hDc := hD.sub (ws' := [(o5, .inr (6, g5))]) [12] (by decide) rfl
  have hKc := hK.sub (tys' := []) [] rfl
  have hFc := va_free (wc := [(o5, .inr (6, g5))]) hD hS hA [12] rfl
  refine va_callv (va_runI (As := [.ref o2, .ref o3]) (rest := [.ref o5, .ref h0]) ⟨hx, hb, hml, hown, hts⟩ (c_Sides_init l dC dI o5 H.size g5 o2 o3) (cwI 2 hts (gP _ 240 rfl) rfl rfl rfl (hts _ (bP 366 rfl)) (hts _ (bP 367 rfl)) (hts _ (bP 368 rfl)) rfl (by decide +kernel) ⟨Nat.le_of_ble_eq_true rfl, Nat.le_of_ble_eq_true rfl⟩) ⟨fun a U g mk q => by obtain ⟨q0, q1, qJ, qP, qK, qD⟩ := q; exact ⟨q0, q1, qJ, qP, va_K.moved (u := U) (U := U.calling g mk a) (Vm.Alike.refl U.vm) qK, qD⟩, fun U hU hW => ⟨rfl, by rw [hU], kJ_sub hG5 (by simp), by rw [hU]; exact hPc, va_K.moved hW.alike hKc, hDc.weaken (fun _ _ _ _ => trivial)⟩⟩ rfl rfl hl.1 rfl (lv_room (Nat.le_of_ble_eq_true rfl)) dX11_init_77 ⟨Nat.le_of_ble_eq_true rfl, Nat.le_of_ble_eq_true rfl⟩) hS (fun q _ h => hFc q h) hFc (fun u t H1 locs ht hvm hw hB hz1 hk1 hS => ?_)
  obtain ⟨hP, hD⟩ := va_join (wr := [(h0, .inr (11, fs)), (o1, .inr (7, ft)), (t_tape, .inl (ct_tape, 6000, .inl (fun _ => 0))), (t_kind, .inl (ct_kind, 6010, .inl (fun _ => 0))), (t_value, .inl (ct_value, 6010, .inl (fun _ => 0))), (t_line, .inl (ct_line, 6010, .inl (fun _ => 0))), (t_blanks, .inl (ct_blanks, 6010, .inl (fun _ => 0))), (t_letters, .inl (ct_letters, 6400, .inl (fun _ => 0))), (t_nameFrom, .inl (ct_nameFrom, 3150, .inl (fun _ => 0))), (t_nameNext, .inl (ct_nameNext, 3150, .inl (fun _ => 0))), (t_bucket, .inl (ct_bucket, 512, .inl (fun _ => 0))), (o2, .inr (8, fr))]) (w1 := []) hP hD [12] [0, 1, 2, 3, 4, 5, 6, 7, 8, 9, 10, 11] rfl rfl (by decide) (by decide) hk1 hFc (fun k q h => by simp at h) ⟨fun i j p q h => by simp at h, fun k q h => by simp at h⟩
  clear hPc hDc hKc hFc hk1 hz1 hB hw
  generalize H1 = H at hP hS ⊢
  have hP : va_P (dC, dI) vwCl [(h0, .inr (11, fs)), (o1, .inr (7, ft)), (t_tape, .inl (ct_tape, 6000, .inl (fun _ => 0))), (t_kind, .inl (ct_kind, 6010, .inl (fun _ => 0))), (t_value, .inl (ct_value, 6010, .inl (fun _ => 0))), (t_line, .inl (ct_line, 6010, .inl (fun _ => 0))), (t_blanks, .inl (ct_blanks, 6010, .inl (fun _ => 0))), (t_letters, .inl (ct_letters, 6400, .inl (fun _ => 0))), (t_nameFrom, .inl (ct_nameFrom, 3150, .inl (fun _ => 0))), (t_nameNext, .inl (ct_nameNext, 3150, .inl (fun _ => 0))), (t_bucket, .inl (ct_bucket, 512, .inl (fun _ => 0))), (o2, .inr (8, fr))] H := hP
  have hD : va_D A [(h0, .inr (11, fs)), (o1, .inr (7, ft)), (t_tape, .inl (ct_tape, 6000, .inl (fun _ => 0))), (t_kind, .inl (ct_kind, 6010, .inl (fun _ => 0))), (t_value, .inl (ct_value, 6010, .inl (fun _ => 0))), (t_line, .inl (ct_line, 6010, .inl (fun _ => 0))), (t_blanks, .inl (ct_blanks, 6010, .inl (fun _ => 0))), (t_letters, .inl (ct_letters, 6400, .inl (fun _ => 0))), (t_nameFrom, .inl (ct_nameFrom, 3150, .inl (fun _ => 0))), (t_nameNext, .inl (ct_nameNext, 3150, .inl (fun _ => 0))), (t_bucket, .inl (ct_bucket, 512, .inl (fun _ => 0))), (o2, .inr (8, fr))] := hD
  refine kq_putF [(4, .ref o5), (2, .ref o3), (1, .ref o2), (0, .ref o1)] hts iX11 tyX11 tyX11_ok nmX11 hx hb hown hin2 hK hP hD hS 0 rfl rfl hJ 4 (by decide) (by decide) rfl (hts _ (bP 369 rfl)) rfl (ty := .object "MeetingHouse$Sides") (by decide +kernel) (v := .ref o5) rfl rfl dX11_init_80 (fun f h => kJ_put h _ _ (by decide)) (fun H locs fs hJ hP hD hS => ?_)
  have hP : va_P (dC, dI) vwCl [(h0, .inr (11, fs)), (o1, .inr (7, ft)), (t_tape, .inl (ct_tape, 6000, .inl (fun _ => 0))), (t_kind, .inl (ct_kind, 6010, .inl (fun _ => 0))), (t_value, .inl (ct_value, 6010, .inl (fun _ => 0))), (t_line, .inl (ct_line, 6010, .inl (fun _ => 0))), (t_blanks, .inl (ct_blanks, 6010, .inl (fun _ => 0))), (t_letters, .inl (ct_letters, 6400, .inl (fun _ => 0))), (t_nameFrom, .inl (ct_nameFrom, 3150, .inl (fun _ => 0))), (t_nameNext, .inl (ct_nameNext, 3150, .inl (fun _ => 0))), (t_bucket, .inl (ct_bucket, 512, .inl (fun _ => 0))), (o2, .inr (8, fr))] H := hP
  have hD : va_D A [(h0, .inr (11, fs)), (o1, .inr (7, ft)), (t_tape, .inl (ct_tape, 6000, .inl (fun _ => 0))), (t_kind, .inl (ct_kind, 6010, .inl (fun _ => 0))), (t_value, .inl (ct_value, 6010, .inl (fun _ => 0))), (t_line, .inl (ct_line, 6010, .inl (fun _ => 0))), (t_blanks, .inl (ct_blanks, 6010, .inl (fun _ => 0))), (t_letters, .inl (ct_letters, 6400, .inl (fun _ => 0))), (t_nameFrom, .inl (ct_nameFrom, 3150, .inl (fun _ => 0))), (t_nameNext, .inl (ct_nameNext, 3150, .inl (fun _ => 0))), (t_bucket, .inl (ct_bucket, 512, .inl (fun _ => 0))), (o2, .inr (8, fr))] := hD
  refine lv_aload_n hx hb dX11_init_83 rfl (lv_at hl 0 rfl) ?_
  refine va_new (ci := 10) (fs := [.null, .null, .null, .null, .null, .null, .null, .null, .int 0, .null, .null, .null, .null, .null, .int 0, .int 0, .int 0, .int 0, .long 0]) (C := RX10) (T := TX10) (N := 19) hx hb hts iX10 tyX10 tyX10_ok hown (hts _ (bP 370 rfl)) (hts _ (bP 371 rfl)) (hts _ (bP 372 rfl)) hK hP hD hS hA rfl (fun j hj => by match j, hj with | 0, _ => rfl | 1, _ => rfl | 2, _ => rfl | 3, _ => rfl | 4, _ => rfl | 5, _ => rfl | 6, _ => rfl | 7, _ => rfl | 8, _ => rfl | 9, _ => rfl | 10, _ => rfl | 11, _ => rfl | 12, _ => rfl | 13, _ => rfl | 14, _ => rfl | 15, _ => rfl | 16, _ => rfl | 17, _ => rfl | 18, _ => rfl | j + 19, h => exact absurd h (by omega)) (Nat.le_of_ble_eq_true rfl) (Nat.le_of_ble_eq_true rfl) dX11_init_84 (fun o6 H hP hD hS => ?_)
  obtain ⟨g6, hg6⟩ : ∃ z : List Value, z = [.null, .null, .null, .null, .null, .null, .null, .null, .int 0, .null, .null, .null, .null, .null, .int 0, .int 0, .int 0, .int 0, .long 0] := ⟨_, rfl⟩
  rw [← hg6] at hP hD
  have hG6 : kJ 19 [] g6 := ⟨by rw [hg6]; rfl, fun x hx => absurd hx List.not_mem_nil⟩
  clear hg6
  have hP : va_P (dC, dI) vwCl [(h0, .inr (11, fs)), (o1, .inr (7, ft)), (t_tape, .inl (ct_tape, 6000, .inl (fun _ => 0))), (t_kind, .inl (ct_kind, 6010, .inl (fun _ => 0))), (t_value, .inl (ct_value, 6010, .inl (fun _ => 0))), (t_line, .inl (ct_line, 6010, .inl (fun _ => 0))), (t_blanks, .inl (ct_blanks, 6010, .inl (fun _ => 0))), (t_letters, .inl (ct_letters, 6400, .inl (fun _ => 0))), (t_nameFrom, .inl (ct_nameFrom, 3150, .inl (fun _ => 0))), (t_nameNext, .inl (ct_nameNext, 3150, .inl (fun _ => 0))), (t_bucket, .inl (ct_bucket, 512, .inl (fun _ => 0))), (o2, .inr (8, fr)), (o6, .inr (10, g6))] H := hP
  have hD : va_D A [(h0, .inr (11, fs)), (o1, .inr (7, ft)), (t_tape, .inl (ct_tape, 6000, .inl (fun _ => 0))), (t_kind, .inl (ct_kind, 6010, .inl (fun _ => 0))), (t_value, .inl (ct_value, 6010, .inl (fun _ => 0))), (t_line, .inl (ct_line, 6010, .inl (fun _ => 0))), (t_blanks, .inl (ct_blanks, 6010, .inl (fun _ => 0))), (t_letters, .inl (ct_letters, 6400, .inl (fun _ => 0))), (t_nameFrom, .inl (ct_nameFrom, 3150, .inl (fun _ => 0))), (t_nameNext, .inl (ct_nameNext, 3150, .inl (fun _ => 0))), (t_bucket, .inl (ct_bucket, 512, .inl (fun _ => 0))), (o2, .inr (8, fr)), (o6, .inr (10, g6))] := hD
  refine lv_dup hx hb dX11_init_87 rfl ?_
  refine lv_aload_n hx hb dX11_init_88 rfl (lv_at hl 0 rfl) ?_
  refine va_get (D := (dC, dI)) (ci := 11) (v := .ref o2) (C := RX11) (T := TX11) (N := 9) hx hb hts iX11 hown hK hP 0 rfl rfl 1 (by decide) (hts _ (bP 351 rfl)) (fun _ h9 => h9) (kJ_at hJ 2 rfl) dX11_init_89 ?_
  refine lv_aload_n hx hb dX11_init_92 rfl (lv_at hl 0 rfl) ?_
  refine va_get (D := (dC, dI)) (ci := 11) (v := .ref o3) (C := RX11) (T := TX11) (N := 9) hx hb hts iX11 hown hK hP 0 rfl rfl 2 (by decide) (hts _ (bP 357 rfl)) (fun _ h9 => h9) (kJ_at hJ 1 rfl) dX11_init_93 ?_
  refine lv_aload_n hx hb dX11_init_96 rfl (lv_at hl 0 rfl) ?_
  refine va_get (D := (dC, dI)) (ci := 11) (v := .ref o5) (C := RX11) (T := TX11) (N := 9) hx hb hts iX11 hown hK hP 0 rfl rfl 4 (by decide) (hts _ (bP 369 rfl)) (fun _ h9 => h9) (kJ_at hJ 0 rfl) dX11_init_97 ?_
  have hPc := hP.sub (ws' := [(o6, .inr (10, g6))]) [12] rfl
  have hDc := hD.sub (ws' := [(o6, .inr (10, g6))]) [12] (by decide) rfl
  have hKc := hK.sub (tys' := []) [] rfl
  have hFc := va_free (wc := [(o6, .inr (10, g6))]) hD hS hA [12] rfl
  refine va_callv (va_runI (As := [.ref o2, .ref o3, .ref o5]) (rest := [.ref o6, .ref h0]) ⟨hx, hb, hml, hown, hts⟩ (c_Uses_init l dC dI o6 H.size g6 o2 o3 o5) (cwI 3 hts (gP _ 254 rfl) rfl rfl rfl (hts _ (bP 372 rfl)) (hts _ (bP 373 rfl)) (hts _ (bP 374 rfl)) rfl (by decide +kernel) ⟨Nat.le_of_ble_eq_true rfl, Nat.le_of_ble_eq_true rfl⟩) ⟨fun a U g mk q => by obtain ⟨q0, q1, qJ, qP, qK, qD⟩ := q; exact ⟨q0, q1, qJ, qP, va_K.moved (u := U) (U := U.calling g mk a) (Vm.Alike.refl U.vm) qK, qD⟩, fun U hU hW => ⟨rfl, by rw [hU], kJ_sub hG6 (by simp), by rw [hU]; exact hPc, va_K.moved hW.alike hKc, hDc.weaken (fun _ _ _ _ => trivial)⟩⟩ rfl rfl hl.1 rfl (lv_room (Nat.le_of_ble_eq_true rfl)) dX11_init_100 ⟨Nat.le_of_ble_eq_true rfl, Nat.le_of_ble_eq_true rfl⟩) hS (fun q _ h => hFc q h) hFc (fun u t H1 locs ht hvm hw hB hz1 hk1 hS => ?_)
  obtain ⟨hP, hD⟩ := va_join (wr := [(h0, .inr (11, fs)), (o1, .inr (7, ft)), (t_tape, .inl (ct_tape, 6000, .inl (fun _ => 0))), (t_kind, .inl (ct_kind, 6010, .inl (fun _ => 0))), (t_value, .inl (ct_value, 6010, .inl (fun _ => 0))), (t_line, .inl (ct_line, 6010, .inl (fun _ => 0))), (t_blanks, .inl (ct_blanks, 6010, .inl (fun _ => 0))), (t_letters, .inl (ct_letters, 6400, .inl (fun _ => 0))), (t_nameFrom, .inl (ct_nameFrom, 3150, .inl (fun _ => 0))), (t_nameNext, .inl (ct_nameNext, 3150, .inl (fun _ => 0))), (t_bucket, .inl (ct_bucket, 512, .inl (fun _ => 0))), (o2, .inr (8, fr))]) (w1 := []) hP hD [12] [0, 1, 2, 3, 4, 5, 6, 7, 8, 9, 10, 11] rfl rfl (by decide) (by decide) hk1 hFc (fun k q h => by simp at h) ⟨fun i j p q h => by simp at h, fun k q h => by simp at h⟩
  clear hPc hDc hKc hFc hk1 hz1 hB hw
  generalize H1 = H at hP hS ⊢
  have hP : va_P (dC, dI) vwCl [(h0, .inr (11, fs)), (o1, .inr (7, ft)), (t_tape, .inl (ct_tape, 6000, .inl (fun _ => 0))), (t_kind, .inl (ct_kind, 6010, .inl (fun _ => 0))), (t_value, .inl (ct_value, 6010, .inl (fun _ => 0))), (t_line, .inl (ct_line, 6010, .inl (fun _ => 0))), (t_blanks, .inl (ct_blanks, 6010, .inl (fun _ => 0))), (t_letters, .inl (ct_letters, 6400, .inl (fun _ => 0))), (t_nameFrom, .inl (ct_nameFrom, 3150, .inl (fun _ => 0))), (t_nameNext, .inl (ct_nameNext, 3150, .inl (fun _ => 0))), (t_bucket, .inl (ct_bucket, 512, .inl (fun _ => 0))), (o2, .inr (8, fr))] H := hP
  have hD : va_D A [(h0, .inr (11, fs)), (o1, .inr (7, ft)), (t_tape, .inl (ct_tape, 6000, .inl (fun _ => 0))), (t_kind, .inl (ct_kind, 6010, .inl (fun _ => 0))), (t_value, .inl (ct_value, 6010, .inl (fun _ => 0))), (t_line, .inl (ct_line, 6010, .inl (fun _ => 0))), (t_blanks, .inl (ct_blanks, 6010, .inl (fun _ => 0))), (t_letters, .inl (ct_letters, 6400, .inl (fun _ => 0))), (t_nameFrom, .inl (ct_nameFrom, 3150, .inl (fun _ => 0))), (t_nameNext, .inl (ct_nameNext, 3150, .inl (fun _ => 0))), (t_bucket, .inl (ct_bucket, 512, .inl (fun _ => 0))), (o2, .inr (8, fr))] := hD
  refine kq_putF [(4, .ref o5), (2, .ref o3), (1, .ref o2), (0, .ref o1)] hts iX11 tyX11 tyX11_ok nmX11 hx hb hown hin2 hK hP hD hS 0 rfl rfl hJ 5 (by decide) (by decide) rfl (hts _ (bP 375 rfl)) rfl (ty := .object "MeetingHouse$Uses") (by decide +kernel) (v := .ref o6) rfl rfl dX11_init_103 (fun f h => kJ_set h _ _ rfl) (fun H locs fs hJ hP hD hS => ?_)
  have hP : va_P (dC, dI) vwCl [(h0, .inr (11, fs)), (o1, .inr (7, ft)), (t_tape, .inl (ct_tape, 6000, .inl (fun _ => 0))), (t_kind, .inl (ct_kind, 6010, .inl (fun _ => 0))), (t_value, .inl (ct_value, 6010, .inl (fun _ => 0))), (t_line, .inl (ct_line, 6010, .inl (fun _ => 0))), (t_blanks, .inl (ct_blanks, 6010, .inl (fun _ => 0))), (t_letters, .inl (ct_letters, 6400, .inl (fun _ => 0))), (t_nameFrom, .inl (ct_nameFrom, 3150, .inl (fun _ => 0))), (t_nameNext, .inl (ct_nameNext, 3150, .inl (fun _ => 0))), (t_bucket, .inl (ct_bucket, 512, .inl (fun _ => 0))), (o2, .inr (8, fr))] H := hP
  have hD : va_D A [(h0, .inr (11, fs)), (o1, .inr (7, ft)), (t_tape, .inl (ct_tape, 6000, .inl (fun _ => 0))), (t_kind, .inl (ct_kind, 6010, .inl (fun _ => 0))), (t_value, .inl (ct_value, 6010, .inl (fun _ => 0))), (t_line, .inl (ct_line, 6010, .inl (fun _ => 0))), (t_blanks, .inl (ct_blanks, 6010, .inl (fun _ => 0))), (t_letters, .inl (ct_letters, 6400, .inl (fun _ => 0))), (t_nameFrom, .inl (ct_nameFrom, 3150, .inl (fun _ => 0))), (t_nameNext, .inl (ct_nameNext, 3150, .inl (fun _ => 0))), (t_bucket, .inl (ct_bucket, 512, .inl (fun _ => 0))), (o2, .inr (8, fr))] := hD
  refine lv_aload_n hx hb dX11_init_106 rfl (lv_at hl 0 rfl) ?_
  refine va_new (ci := 0) (fs := [.null, .int 0, .int 0, .null, .null, .int 0, .null, .null]) (C := RX0) (T := TX0) (N := 8) hx hb hts iX0 tyX0 tyX0_ok hown (hts _ (bP 376 rfl)) (hts _ (bP 377 rfl)) (hts _ (bP 378 rfl)) hK hP hD hS hA rfl (fun j hj => by match j, hj with | 0, _ => rfl | 1, _ => rfl | 2, _ => rfl | 3, _ => rfl | 4, _ => rfl | 5, _ => rfl | 6, _ => rfl | 7, _ => rfl | j + 8, h => exact absurd h (by omega)) (Nat.le_of_ble_eq_true rfl) (Nat.le_of_ble_eq_true rfl) dX11_init_107 (fun o7 H hP hD hS => ?_)
  obtain ⟨g7, hg7⟩ : ∃ z : List Value, z = [.null, .int 0, .int 0, .null, .null, .int 0, .null, .null] := ⟨_, rfl⟩
  rw [← hg7] at hP hD
  have hG7 : kJ 8 [] g7 := ⟨by rw [hg7]; rfl, fun x hx => absurd hx List.not_mem_nil⟩
  clear hg7
  have hP : va_P (dC, dI) vwCl [(h0, .inr (11, fs)), (o1, .inr (7, ft)), (t_tape, .inl (ct_tape, 6000, .inl (fun _ => 0))), (t_kind, .inl (ct_kind, 6010, .inl (fun _ => 0))), (t_value, .inl (ct_value, 6010, .inl (fun _ => 0))), (t_line, .inl (ct_line, 6010, .inl (fun _ => 0))), (t_blanks, .inl (ct_blanks, 6010, .inl (fun _ => 0))), (t_letters, .inl (ct_letters, 6400, .inl (fun _ => 0))), (t_nameFrom, .inl (ct_nameFrom, 3150, .inl (fun _ => 0))), (t_nameNext, .inl (ct_nameNext, 3150, .inl (fun _ => 0))), (t_bucket, .inl (ct_bucket, 512, .inl (fun _ => 0))), (o2, .inr (8, fr)), (o7, .inr (0, g7))] H := hP
  have hD : va_D A [(h0, .inr (11, fs)), (o1, .inr (7, ft)), (t_tape, .inl (ct_tape, 6000, .inl (fun _ => 0))), (t_kind, .inl (ct_kind, 6010, .inl (fun _ => 0))), (t_value, .inl (ct_value, 6010, .inl (fun _ => 0))), (t_line, .inl (ct_line, 6010, .inl (fun _ => 0))), (t_blanks, .inl (ct_blanks, 6010, .inl (fun _ => 0))), (t_letters, .inl (ct_letters, 6400, .inl (fun _ => 0))), (t_nameFrom, .inl (ct_nameFrom, 3150, .inl (fun _ => 0))), (t_nameNext, .inl (ct_nameNext, 3150, .inl (fun _ => 0))), (t_bucket, .inl (ct_bucket, 512, .inl (fun _ => 0))), (o2, .inr (8, fr)), (o7, .inr (0, g7))] := hD
  refine lv_dup hx hb dX11_init_110 rfl ?_
  refine lv_aload_n hx hb dX11_init_111 rfl (lv_at hl 0 rfl) ?_
  refine va_get (D := (dC, dI)) (ci := 11) (v := .ref o2) (C := RX11) (T := TX11) (N := 9) hx hb hts iX11 hown hK hP 0 rfl rfl 1 (by decide) (hts _ (bP 351 rfl)) (fun _ h9 => h9) (kJ_at hJ 2 rfl) dX11_init_112 ?_
  refine lv_aload_n hx hb dX11_init_115 rfl (lv_at hl 0 rfl) ?_
  refine va_get (D := (dC, dI)) (ci := 11) (v := .ref o3) (C := RX11) (T := TX11) (N := 9) hx hb hts iX11 hown hK hP 0 rfl rfl 2 (by decide) (hts _ (bP 357 rfl)) (fun _ h9 => h9) (kJ_at hJ 1 rfl) dX11_init_116 ?_
  have hPc := hP.sub (ws' := [(o7, .inr (0, g7))]) [12] rfl
  have hDc := hD.sub (ws' := [(o7, .inr (0, g7))]) [12] (by decide) rfl
  have hKc := hK.sub (tys' := []) [] rfl
  have hFc := va_free (wc := [(o7, .inr (0, g7))]) hD hS hA [12] rfl
  refine va_callv (va_runI (As := [.ref o2, .ref o3]) (rest := [.ref o7, .ref h0]) ⟨hx, hb, hml, hown, hts⟩ (c_Coder_init l dC dI o7 H.size g7 o2 o3) (cwI 2 hts (gP _ 270 rfl) rfl rfl rfl (hts _ (bP 378 rfl)) (hts _ (bP 379 rfl)) (hts _ (bP 380 rfl)) rfl (by decide +kernel) ⟨Nat.le_of_ble_eq_true rfl, Nat.le_of_ble_eq_true rfl⟩) ⟨fun a U g mk q => by obtain ⟨q0, q1, qJ, qP, qK, qD⟩ := q; exact ⟨q0, q1, qJ, qP, va_K.moved (u := U) (U := U.calling g mk a) (Vm.Alike.refl U.vm) qK, qD⟩, fun U hU hW => ⟨rfl, by rw [hU], kJ_sub hG7 (by simp), by rw [hU]; exact hPc, va_K.moved hW.alike hKc, hDc.weaken (fun _ _ _ _ => trivial)⟩⟩ rfl rfl hl.1 rfl (lv_room (Nat.le_of_ble_eq_true rfl)) dX11_init_119 ⟨Nat.le_of_ble_eq_true rfl, Nat.le_of_ble_eq_true rfl⟩) hS (fun q _ h => hFc q h) hFc (fun u t H1 locs ht hvm hw hB hz1 hk1 hS => ?_)
  obtain ⟨hP, hD⟩ := va_join (wr := [(h0, .inr (11, fs)), (o1, .inr (7, ft)), (t_tape, .inl (ct_tape, 6000, .inl (fun _ => 0))), (t_kind, .inl (ct_kind, 6010, .inl (fun _ => 0))), (t_value, .inl (ct_value, 6010, .inl (fun _ => 0))), (t_line, .inl (ct_line, 6010, .inl (fun _ => 0))), (t_blanks, .inl (ct_blanks, 6010, .inl (fun _ => 0))), (t_letters, .inl (ct_letters, 6400, .inl (fun _ => 0))), (t_nameFrom, .inl (ct_nameFrom, 3150, .inl (fun _ => 0))), (t_nameNext, .inl (ct_nameNext, 3150, .inl (fun _ => 0))), (t_bucket, .inl (ct_bucket, 512, .inl (fun _ => 0))), (o2, .inr (8, fr))]) (w1 := []) hP hD [12] [0, 1, 2, 3, 4, 5, 6, 7, 8, 9, 10, 11] rfl rfl (by decide) (by decide) hk1 hFc (fun k q h => by simp at h) ⟨fun i j p q h => by simp at h, fun k q h => by simp at h⟩
  clear hPc hDc hKc hFc hk1 hz1 hB hw
  generalize H1 = H at hP hS ⊢
  have hP : va_P (dC, dI) vwCl [(h0, .inr (11, fs)), (o1, .inr (7, ft)), (t_tape, .inl (ct_tape, 6000, .inl (fun _ => 0))), (t_kind, .inl (ct_kind, 6010, .inl (fun _ => 0))), (t_value, .inl (ct_value, 6010, .inl (fun _ => 0))), (t_line, .inl (ct_line, 6010, .inl (fun _ => 0))), (t_blanks, .inl (ct_blanks, 6010, .inl (fun _ => 0))), (t_letters, .inl (ct_letters, 6400, .inl (fun _ => 0))), (t_nameFrom, .inl (ct_nameFrom, 3150, .inl (fun _ => 0))), (t_nameNext, .inl (ct_nameNext, 3150, .inl (fun _ => 0))), (t_bucket, .inl (ct_bucket, 512, .inl (fun _ => 0))), (o2, .inr (8, fr))] H := hP
  have hD : va_D A [(h0, .inr (11, fs)), (o1, .inr (7, ft)), (t_tape, .inl (ct_tape, 6000, .inl (fun _ => 0))), (t_kind, .inl (ct_kind, 6010, .inl (fun _ => 0))), (t_value, .inl (ct_value, 6010, .inl (fun _ => 0))), (t_line, .inl (ct_line, 6010, .inl (fun _ => 0))), (t_blanks, .inl (ct_blanks, 6010, .inl (fun _ => 0))), (t_letters, .inl (ct_letters, 6400, .inl (fun _ => 0))), (t_nameFrom, .inl (ct_nameFrom, 3150, .inl (fun _ => 0))), (t_nameNext, .inl (ct_nameNext, 3150, .inl (fun _ => 0))), (t_bucket, .inl (ct_bucket, 512, .inl (fun _ => 0))), (o2, .inr (8, fr))] := hD
  refine kq_putF [(6, .ref o7), (4, .ref o5), (2, .ref o3), (1, .ref o2), (0, .ref o1)] hts iX11 tyX11 tyX11_ok nmX11 hx hb hown hin2 hK hP hD hS 0 rfl rfl hJ 6 (by decide) (by decide) rfl (hts _ (bP 381 rfl)) rfl (ty := .object "MeetingHouse$Coder") (by decide +kernel) (v := .ref o7) rfl rfl dX11_init_122 (fun f h => kJ_put h _ _ (by decide)) (fun H locs fs hJ hP hD hS => ?_)
  have hP : va_P (dC, dI) vwCl [(h0, .inr (11, fs)), (o1, .inr (7, ft)), (t_tape, .inl (ct_tape, 6000, .inl (fun _ => 0))), (t_kind, .inl (ct_kind, 6010, .inl (fun _ => 0))), (t_value, .inl (ct_value, 6010, .inl (fun _ => 0))), (t_line, .inl (ct_line, 6010, .inl (fun _ => 0))), (t_blanks, .inl (ct_blanks, 6010, .inl (fun _ => 0))), (t_letters, .inl (ct_letters, 6400, .inl (fun _ => 0))), (t_nameFrom, .inl (ct_nameFrom, 3150, .inl (fun _ => 0))), (t_nameNext, .inl (ct_nameNext, 3150, .inl (fun _ => 0))), (t_bucket, .inl (ct_bucket, 512, .inl (fun _ => 0))), (o2, .inr (8, fr))] H := hP
  have hD : va_D A [(h0, .inr (11, fs)), (o1, .inr (7, ft)), (t_tape, .inl (ct_tape, 6000, .inl (fun _ => 0))), (t_kind, .inl (ct_kind, 6010, .inl (fun _ => 0))), (t_value, .inl (ct_value, 6010, .inl (fun _ => 0))), (t_line, .inl (ct_line, 6010, .inl (fun _ => 0))), (t_blanks, .inl (ct_blanks, 6010, .inl (fun _ => 0))), (t_letters, .inl (ct_letters, 6400, .inl (fun _ => 0))), (t_nameFrom, .inl (ct_nameFrom, 3150, .inl (fun _ => 0))), (t_nameNext, .inl (ct_nameNext, 3150, .inl (fun _ => 0))), (t_bucket, .inl (ct_bucket, 512, .inl (fun _ => 0))), (o2, .inr (8, fr))] := hD
  refine lv_aload_n hx hb dX11_init_125 rfl (lv_at hl 0 rfl) ?_
  refine va_new (ci := 3) (fs := [.int 0, .int 0, .null, .null, .null, .null, .null, .int 0, .null, .int 0, .null, .null, .int 0, .int 0, .int 0, .int 0, .int 0, .int 0, .null, .null, .null]) (C := RX3) (T := TX3) (N := 21) hx hb hts iX3 tyX3 tyX3_ok hown (hts _ (bP 382 rfl)) (hts _ (bP 383 rfl)) (hts _ (bP 384 rfl)) hK hP hD hS hA rfl (fun j hj => by match j, hj with | 0, _ => rfl | 1, _ => rfl | 2, _ => rfl | 3, _ => rfl | 4, _ => rfl | 5, _ => rfl | 6, _ => rfl | 7, _ => rfl | 8, _ => rfl | 9, _ => rfl | 10, _ => rfl | 11, _ => rfl | 12, _ => rfl | 13, _ => rfl | 14, _ => rfl | 15, _ => rfl | 16, _ => rfl | 17, _ => rfl | 18, _ => rfl | 19, _ => rfl | 20, _ => rfl | j + 21, h => exact absurd h (by omega)) (Nat.le_of_ble_eq_true rfl) (Nat.le_of_ble_eq_true rfl) dX11_init_126 (fun o8 H hP hD hS => ?_)
  obtain ⟨g8, hg8⟩ : ∃ z : List Value, z = [.int 0, .int 0, .null, .null, .null, .null, .null, .int 0, .null, .int 0, .null, .null, .int 0, .int 0, .int 0, .int 0, .int 0, .int 0, .null, .null, .null] := ⟨_, rfl⟩
  rw [← hg8] at hP hD
  have hG8 : kJ 21 [(0, .int 0)] g8 := ⟨by rw [hg8]; rfl, fun x hx => by rw [hg8]; simp only [List.mem_cons, List.not_mem_nil, or_false] at hx; rcases hx with rfl <;> rfl⟩
  clear hg8
  have hP : va_P (dC, dI) vwCl [(h0, .inr (11, fs)), (o1, .inr (7, ft)), (t_tape, .inl (ct_tape, 6000, .inl (fun _ => 0))), (t_kind, .inl (ct_kind, 6010, .inl (fun _ => 0))), (t_value, .inl (ct_value, 6010, .inl (fun _ => 0))), (t_line, .inl (ct_line, 6010, .inl (fun _ => 0))), (t_blanks, .inl (ct_blanks, 6010, .inl (fun _ => 0))), (t_letters, .inl (ct_letters, 6400, .inl (fun _ => 0))), (t_nameFrom, .inl (ct_nameFrom, 3150, .inl (fun _ => 0))), (t_nameNext, .inl (ct_nameNext, 3150, .inl (fun _ => 0))), (t_bucket, .inl (ct_bucket, 512, .inl (fun _ => 0))), (o2, .inr (8, fr)), (o8, .inr (3, g8))] H := hP
  have hD : va_D A [(h0, .inr (11, fs)), (o1, .inr (7, ft)), (t_tape, .inl (ct_tape, 6000, .inl (fun _ => 0))), (t_kind, .inl (ct_kind, 6010, .inl (fun _ => 0))), (t_value, .inl (ct_value, 6010, .inl (fun _ => 0))), (t_line, .inl (ct_line, 6010, .inl (fun _ => 0))), (t_blanks, .inl (ct_blanks, 6010, .inl (fun _ => 0))), (t_letters, .inl (ct_letters, 6400, .inl (fun _ => 0))), (t_nameFrom, .inl (ct_nameFrom, 3150, .inl (fun _ => 0))), (t_nameNext, .inl (ct_nameNext, 3150, .inl (fun _ => 0))), (t_bucket, .inl (ct_bucket, 512, .inl (fun _ => 0))), (o2, .inr (8, fr)), (o8, .inr (3, g8))] := hD
  refine lv_dup hx hb dX11_init_129 rfl ?_
  refine lv_aload_n hx hb dX11_init_130 rfl (lv_at hl 0 rfl) ?_
  refine va_get (D := (dC, dI)) (ci := 11) (v := .ref o7) (C := RX11) (T := TX11) (N := 9) hx hb hts iX11 hown hK hP 0 rfl rfl 6 (by decide) (hts _ (bP 381 rfl)) (fun _ h9 => h9) (kJ_at hJ 0 rfl) dX11_init_131 ?_
  refine lv_aload_n hx hb dX11_init_134 rfl (lv_at hl 0 rfl) ?_
  refine va_get (D := (dC, dI)) (ci := 11) (v := .ref o1) (C := RX11) (T := TX11) (N := 9) hx hb hts iX11 hown hK hP 0 rfl rfl 0 (by decide) (hts _ (bP 345 rfl)) (fun _ h9 => h9) (kJ_at hJ 4 rfl) dX11_init_135 ?_
  have hPc := hP.sub (ws' := [(o8, .inr (3, g8))]) [12] rfl
  have hDc := hD.sub (ws' := [(o8, .inr (3, g8))]) [12] (by decide) rfl
  have hKc := hK.sub (tys' := []) [] rfl
  have hFc := va_free (wc := [(o8, .inr (3, g8))]) hD hS hA [12] rfl
  refine va_callv (va_runI (As := [.ref o7, .ref o1]) (rest := [.ref o8, .ref h0]) ⟨hx, hb, hml, hown, hts⟩ (c_Machine_init l dC dI o8 H.size g8 o7 o1) (cwI 2 hts (gP _ 317 rfl) rfl rfl rfl (hts _ (bP 384 rfl)) (hts _ (bP 385 rfl)) (hts _ (bP 386 rfl)) rfl (by decide +kernel) ⟨Nat.le_of_ble_eq_true rfl, Nat.le_of_ble_eq_true rfl⟩) ⟨fun a U g mk q => by obtain ⟨q0, q1, qJ, qP, qK, qD, hao, hnH⟩ := q; exact ⟨q0, q1, qJ, qP, va_K.moved (u := U) (U := U.calling g mk a) (Vm.Alike.refl U.vm) qK, qD, va_AO.moved (u := U) (U := U.calling g mk a) (Vm.Alike.refl U.vm) hao, va_Nw.same (u := U) (U := U.calling g mk a) rfl rfl hnH⟩, fun U hU hW => ⟨rfl, by rw [hU], kJ_sub hG8 (by simp), by rw [hU]; exact hPc, va_K.moved hW.alike hKc, hDc.weaken (fun _ _ _ _ => trivial), va_AO.moved hW.alike hao, va_Nw.warmM hW hnH⟩⟩ rfl rfl hl.1 rfl (lv_room (Nat.le_of_ble_eq_true rfl)) dX11_init_138 ⟨Nat.le_of_ble_eq_true rfl, Nat.le_of_ble_eq_true rfl⟩) hS (fun q _ h => hFc q h) hFc (fun u t H1 locs ht hvm hw hB hz1 hk1 hS => ?_)
  obtain ⟨fm, hfm⟩ : ∃ z, z = u := ⟨_, rfl⟩
  rw [← hfm] at hB hw
  clear hfm
  have hM : kJ 21 [(0, .int 0)] fm := hw
  obtain ⟨hP1, hK1, hD1⟩ := hB
  rw [ht] at hP1
  have hK1 := va_K.moved hvm.symm hK1
  obtain ⟨hP, hD⟩ := va_join (wr := [(h0, .inr (11, fs)), (o1, .inr (7, ft)), (t_tape, .inl (ct_tape, 6000, .inl (fun _ => 0))), (t_kind, .inl (ct_kind, 6010, .inl (fun _ => 0))), (t_value, .inl (ct_value, 6010, .inl (fun _ => 0))), (t_line, .inl (ct_line, 6010, .inl (fun _ => 0))), (t_blanks, .inl (ct_blanks, 6010, .inl (fun _ => 0))), (t_letters, .inl (ct_letters, 6400, .inl (fun _ => 0))), (t_nameFrom, .inl (ct_nameFrom, 3150, .inl (fun _ => 0))), (t_nameNext, .inl (ct_nameNext, 3150, .inl (fun _ => 0))), (t_bucket, .inl (ct_bucket, 512, .inl (fun _ => 0))), (o2, .inr (8, fr))]) (w1 := [(o8, .inr (3, fm))]) hP hD [12] [0, 1, 2, 3, 4, 5, 6, 7, 8, 9, 10, 11] rfl rfl (by decide) (by decide) hk1 hFc hP1 hD1
  have hK := (hK.sub (tys' := [(ct_tape, .byte), (ct_kind, .int), (ct_value, .int), (ct_line, .int), (ct_blanks, .int), (ct_letters, .byte), (ct_nameFrom, .int), (ct_nameNext, .int), (ct_bucket, .int)]) [0, 1, 2, 3, 4, 5, 6, 7, 8] rfl).app hK1
  clear hPc hDc hKc hFc hP1 hK1 hD1 hk1 hz1
  generalize H1 = H at hP hS ⊢
  have hP : va_P (dC, dI) vwCl [(h0, .inr (11, fs)), (o1, .inr (7, ft)), (t_tape, .inl (ct_tape, 6000, .inl (fun _ => 0))), (t_kind, .inl (ct_kind, 6010, .inl (fun _ => 0))), (t_value, .inl (ct_value, 6010, .inl (fun _ => 0))), (t_line, .inl (ct_line, 6010, .inl (fun _ => 0))), (t_blanks, .inl (ct_blanks, 6010, .inl (fun _ => 0))), (t_letters, .inl (ct_letters, 6400, .inl (fun _ => 0))), (t_nameFrom, .inl (ct_nameFrom, 3150, .inl (fun _ => 0))), (t_nameNext, .inl (ct_nameNext, 3150, .inl (fun _ => 0))), (t_bucket, .inl (ct_bucket, 512, .inl (fun _ => 0))), (o2, .inr (8, fr)), (o8, .inr (3, fm))] H := hP
  have hD : va_D A [(h0, .inr (11, fs)), (o1, .inr (7, ft)), (t_tape, .inl (ct_tape, 6000, .inl (fun _ => 0))), (t_kind, .inl (ct_kind, 6010, .inl (fun _ => 0))), (t_value, .inl (ct_value, 6010, .inl (fun _ => 0))), (t_line, .inl (ct_line, 6010, .inl (fun _ => 0))), (t_blanks, .inl (ct_blanks, 6010, .inl (fun _ => 0))), (t_letters, .inl (ct_letters, 6400, .inl (fun _ => 0))), (t_nameFrom, .inl (ct_nameFrom, 3150, .inl (fun _ => 0))), (t_nameNext, .inl (ct_nameNext, 3150, .inl (fun _ => 0))), (t_bucket, .inl (ct_bucket, 512, .inl (fun _ => 0))), (o2, .inr (8, fr)), (o8, .inr (3, fm))] := hD
  have hK : va_K (dC, dI) vwCl [(ct_tape, .byte), (ct_kind, .int), (ct_value, .int), (ct_line, .int), (ct_blanks, .int), (ct_letters, .byte), (ct_nameFrom, .int), (ct_nameNext, .int), (ct_bucket, .int)] s := hK
  refine kq_putF [(7, .ref o8), (6, .ref o7), (4, .ref o5), (2, .ref o3), (1, .ref o2), (0, .ref o1)] hts iX11 tyX11 tyX11_ok nmX11 hx hb hown hin2 hK hP hD hS 0 rfl rfl hJ 7 (by decide) (by decide) rfl (hts _ (bP 387 rfl)) rfl (ty := .object "MeetingHouse$Machine") (by decide +kernel) (v := .ref o8) rfl rfl dX11_init_141 (fun f h => kJ_put h _ _ (by decide)) (fun H locs fs hJ hP hD hS => ?_)
  have hP : va_P (dC, dI) vwCl [(h0, .inr (11, fs)), (o1, .inr (7, ft)), (t_tape, .inl (ct_tape, 6000, .inl (fun _ => 0))), (t_kind, .inl (ct_kind, 6010, .inl (fun _ => 0))), (t_value, .inl (ct_value, 6010, .inl (fun _ => 0))), (t_line, .inl (ct_line, 6010, .inl (fun _ => 0))), (t_blanks, .inl (ct_blanks, 6010, .inl (fun _ => 0))), (t_letters, .inl (ct_letters, 6400, .inl (fun _ => 0))), (t_nameFrom, .inl (ct_nameFrom, 3150, .inl (fun _ => 0))), (t_nameNext, .inl (ct_nameNext, 3150, .inl (fun _ => 0))), (t_bucket, .inl (ct_bucket, 512, .inl (fun _ => 0))), (o2, .inr (8, fr)), (o8, .inr (3, fm))] H := hP
  have hD : va_D A [(h0, .inr (11, fs)), (o1, .inr (7, ft)), (t_tape, .inl (ct_tape, 6000, .inl (fun _ => 0))), (t_kind, .inl (ct_kind, 6010, .inl (fun _ => 0))), (t_value, .inl (ct_value, 6010, .inl (fun _ => 0))), (t_line, .inl (ct_line, 6010, .inl (fun _ => 0))), (t_blanks, .inl (ct_blanks, 6010, .inl (fun _ => 0))), (t_letters, .inl (ct_letters, 6400, .inl (fun _ => 0))), (t_nameFrom, .inl (ct_nameFrom, 3150, .inl (fun _ => 0))), (t_nameNext, .inl (ct_nameNext, 3150, .inl (fun _ => 0))), (t_bucket, .inl (ct_bucket, 512, .inl (fun _ => 0))), (o2, .inr (8, fr)), (o8, .inr (3, fm))] := hD
  refine lv_aload_n hx hb dX11_init_144 rfl (lv_at hl 0 rfl) ?_
  refine lv_iconst (v := 0) hx hb dX11_init_145 (by decide) ?_
  refine kq_put [(8, .int 0), (7, .ref o8), (6, .ref o7), (4, .ref o5), (2, .ref o3), (1, .ref o2), (0, .ref o1)] hts iX11 tyX11 tyX11_ok nmX11 hx hb hown hK hP hD hS 0 rfl rfl hJ 8 (by decide) (by decide) (hts _ (bP 388 rfl)) rfl (ty := .boolean) (by decide +kernel) (v := .int 0) (by decide) (by decide) dX11_init_146 (fun f h => kJ_put h _ _ (by decide)) (fun H locs fs hJ hP hD hS => ?_)
  have hP : va_P (dC, dI) vwCl [(h0, .inr (11, fs)), (o1, .inr (7, ft)), (t_tape, .inl (ct_tape, 6000, .inl (fun _ => 0))), (t_kind, .inl (ct_kind, 6010, .inl (fun _ => 0))), (t_value, .inl (ct_value, 6010, .inl (fun _ => 0))), (t_line, .inl (ct_line, 6010, .inl (fun _ => 0))), (t_blanks, .inl (ct_blanks, 6010, .inl (fun _ => 0))), (t_letters, .inl (ct_letters, 6400, .inl (fun _ => 0))), (t_nameFrom, .inl (ct_nameFrom, 3150, .inl (fun _ => 0))), (t_nameNext, .inl (ct_nameNext, 3150, .inl (fun _ => 0))), (t_bucket, .inl (ct_bucket, 512, .inl (fun _ => 0))), (o2, .inr (8, fr)), (o8, .inr (3, fm))] H := hP
  have hD : va_D A [(h0, .inr (11, fs)), (o1, .inr (7, ft)), (t_tape, .inl (ct_tape, 6000, .inl (fun _ => 0))), (t_kind, .inl (ct_kind, 6010, .inl (fun _ => 0))), (t_value, .inl (ct_value, 6010, .inl (fun _ => 0))), (t_line, .inl (ct_line, 6010, .inl (fun _ => 0))), (t_blanks, .inl (ct_blanks, 6010, .inl (fun _ => 0))), (t_letters, .inl (ct_letters, 6400, .inl (fun _ => 0))), (t_nameFrom, .inl (ct_nameFrom, 3150, .inl (fun _ => 0))), (t_nameNext, .inl (ct_nameNext, 3150, .inl (fun _ => 0))), (t_bucket, .inl (ct_bucket, 512, .inl (fun _ => 0))), (o2, .inr (8, fr)), (o8, .inr (3, fm))] := hD
  have hPq := hP.sub (ws' := xW h0 (fs, ft, fr, fm, o1, o2, o8, t_tape, t_kind, t_value, t_line, t_blanks, t_letters, t_nameFrom, t_nameNext, t_bucket, ct_tape, ct_kind, ct_value, ct_line, ct_blanks, ct_letters, ct_nameFrom, ct_nameNext, ct_bucket)) [0, 1, 2, 3, 4, 5, 6, 7, 8, 9, 10, 11, 12] rfl
  have hDq := hD.sub (ws' := xW h0 (fs, ft, fr, fm, o1, o2, o8, t_tape, t_kind, t_value, t_line, t_blanks, t_letters, t_nameFrom, t_nameNext, t_bucket, ct_tape, ct_kind, ct_value, ct_line, ct_blanks, ct_letters, ct_nameFrom, ct_nameNext, ct_bucket)) [0, 1, 2, 3, 4, 5, 6, 7, 8, 9, 10, 11, 12] (by decide) rfl
  have hKq := hK.sub (tys' := xTy (fs, ft, fr, fm, o1, o2, o8, t_tape, t_kind, t_value, t_line, t_blanks, t_letters, t_nameFrom, t_nameNext, t_bucket, ct_tape, ct_kind, ct_value, ct_line, ct_blanks, ct_letters, ct_nameFrom, ct_nameNext, ct_bucket)) [0, 1, 2, 3, 4, 5, 6, 7, 8] rfl
  refine W.widen (k := 323) (n := 419152) (Nat.le_of_ble_eq_true rfl) (Nat.le_of_ble_eq_true rfl) ?_
  exact W.vret hx hb hr (fun t ht hW => ⟨⟨(fs, ft, fr, fm, o1, o2, o8, t_tape, t_kind, t_value, t_line, t_blanks, t_letters, t_nameFrom, t_nameNext, t_bucket, ct_tape, ct_kind, ct_value, ct_line, ct_blanks, ct_letters, ct_nameFrom, ct_nameNext, ct_bucket), rfl, ⟨kJ_sub hJ (by intro x hx; simp only [List.mem_cons, List.not_mem_nil, or_false] at hx ⊢; rcases hx with h | h | h | h <;> simp [h]), hT, hR, hM⟩, by rw [ht]; exact hPq, va_K.moved hW.alike hKq, hDq⟩, hS.F ht⟩) hS.2.2 dX11_init_149
end
section
/-! The class on a fresh object -/
theorem dX3_press_0 : decode cX3_press 0 = .ok (.aload_n 0, 1) := by decide +kernel
theorem dX3_press_1 : decode cX3_press 1 = .ok (.getfield 78, 3) := by decide +kernel
theorem dX3_press_4 : decode cX3_press 4 = .ok (.ifCond .eq 14, 3) := by decide +kernel
theorem dX3_press_18 : decode cX3_press 18 = .ok (.iconst 0, 1) := by decide +kernel
theorem dX3_press_19 : decode cX3_press 19 = .ok (.ireturn, 1) := by decide +kernel
theorem dX3_tally_0 : decode cX3_tally 0 = .ok (.aload_n 0, 1) := by decide +kernel
theorem dX3_tally_1 : decode cX3_tally 1 = .ok (.getfield 78, 3) := by decide +kernel
theorem dX3_tally_4 : decode cX3_tally 4 = .ok (.ifCond .ne 5, 3) := by decide +kernel
theorem dX3_tally_7 : decode cX3_tally 7 = .ok (.iconst 0, 1) := by decide +kernel
theorem dX3_tally_8 : decode cX3_tally 8 = .ok (.ireturn, 1) := by decide +kernel
theorem dX3_shown_0 : decode cX3_shown 0 = .ok (.aload_n 0, 1) := by decide +kernel
theorem dX3_shown_1 : decode cX3_shown 1 = .ok (.getfield 78, 3) := by decide +kernel
theorem dX3_shown_4 : decode cX3_shown 4 = .ok (.ifCond .eq 14, 3) := by decide +kernel
theorem dX3_shown_18 : decode cX3_shown 18 = .ok (.iconst (-1), 1) := by decide +kernel
theorem dX3_shown_19 : decode cX3_shown 19 = .ok (.ireturn, 1) := by decide +kernel
theorem dX3_tellMeeting_0 : decode cX3_tellMeeting 0 = .ok (.aload_n 0, 1) := by decide +kernel
theorem dX3_tellMeeting_1 : decode cX3_tellMeeting 1 = .ok (.getfield 78, 3) := by decide +kernel
theorem dX3_tellMeeting_4 : decode cX3_tellMeeting 4 = .ok (.ifCond .eq 15, 3) := by decide +kernel
theorem dX3_tellMeeting_19 : decode cX3_tellMeeting 19 = .ok (.iconst (-1), 1) := by decide +kernel
theorem dX3_tellMeeting_20 : decode cX3_tellMeeting 20 = .ok (.ireturn, 1) := by decide +kernel
theorem dX3_tellProcess_0 : decode cX3_tellProcess 0 = .ok (.aload_n 0, 1) := by decide +kernel
theorem dX3_tellProcess_1 : decode cX3_tellProcess 1 = .ok (.getfield 78, 3) := by decide +kernel
theorem dX3_tellProcess_4 : decode cX3_tellProcess 4 = .ok (.ifCond .eq 14, 3) := by decide +kernel
theorem dX3_tellProcess_18 : decode cX3_tellProcess 18 = .ok (.aconst_null, 1) := by decide +kernel
theorem dX3_tellProcess_19 : decode cX3_tellProcess 19 = .ok (.astore_n 3, 1) := by decide +kernel
theorem dX3_tellProcess_20 : decode cX3_tellProcess 20 = .ok (.aload_n 3, 1) := by decide +kernel
theorem dX3_tellProcess_21 : decode cX3_tellProcess 21 = .ok (.ifnonnull 5, 3) := by decide +kernel
theorem dX3_tellProcess_24 : decode cX3_tellProcess 24 = .ok (.iconst (-1), 1) := by decide +kernel
theorem dX3_tellProcess_25 : decode cX3_tellProcess 25 = .ok (.ireturn, 1) := by decide +kernel
theorem dX3_tellCell_0 : decode cX3_tellCell 0 = .ok (.aload_n 0, 1) := by decide +kernel
theorem dX3_tellCell_1 : decode cX3_tellCell 1 = .ok (.getfield 78, 3) := by decide +kernel
theorem dX3_tellCell_4 : decode cX3_tellCell 4 = .ok (.ifCond .eq 7, 3) := by decide +kernel
theorem dX3_tellCell_11 : decode cX3_tellCell 11 = .ok (.iconst 0, 1) := by decide +kernel
theorem dX3_tellCell_12 : decode cX3_tellCell 12 = .ok (.ireturn, 1) := by decide +kernel
theorem dX7_append_0 : decode cX7_append 0 = .ok (.bipush 24, 2) := by decide +kernel
theorem dX7_append_2 : decode cX7_append 2 = .ok (.istore_n 2, 1) := by decide +kernel
theorem dX7_append_3 : decode cX7_append 3 = .ok (.iload_n 2, 1) := by decide +kernel
theorem dX7_append_4 : decode cX7_append 4 = .ok (.ifCond .lt 42, 3) := by decide +kernel
theorem dX7_append_7 : decode cX7_append 7 = .ok (.aload_n 0, 1) := by decide +kernel
theorem dX7_append_8 : decode cX7_append 8 = .ok (.getfield 43, 3) := by decide +kernel
theorem dX7_append_11 : decode cX7_append 11 = .ok (.sipush 6000, 3) := by decide +kernel
theorem dX7_append_14 : decode cX7_append 14 = .ok (.if_icmp .ge 26, 3) := by decide +kernel
theorem dX7_append_17 : decode cX7_append 17 = .ok (.aload_n 0, 1) := by decide +kernel
theorem dX7_append_18 : decode cX7_append 18 = .ok (.getfield 9, 3) := by decide +kernel
theorem dX7_append_21 : decode cX7_append 21 = .ok (.aload_n 0, 1) := by decide +kernel
theorem dX7_append_22 : decode cX7_append 22 = .ok (.getfield 43, 3) := by decide +kernel
theorem dX7_append_25 : decode cX7_append 25 = .ok (.iload_n 1, 1) := by decide +kernel
theorem dX7_append_26 : decode cX7_append 26 = .ok (.iload_n 2, 1) := by decide +kernel
theorem dX7_append_27 : decode cX7_append 27 = .ok (.iushr, 1) := by decide +kernel
theorem dX7_append_28 : decode cX7_append 28 = .ok (.i2b, 1) := by decide +kernel
theorem dX7_append_29 : decode cX7_append 29 = .ok (.bastore, 1) := by decide +kernel
theorem dX7_append_30 : decode cX7_append 30 = .ok (.aload_n 0, 1) := by decide +kernel
theorem dX7_append_31 : decode cX7_append 31 = .ok (.dup, 1) := by decide +kernel
theorem dX7_append_32 : decode cX7_append 32 = .ok (.getfield 43, 3) := by decide +kernel
theorem dX7_append_35 : decode cX7_append 35 = .ok (.iconst 1, 1) := by decide +kernel
theorem dX7_append_36 : decode cX7_append 36 = .ok (.iadd, 1) := by decide +kernel
theorem dX7_append_37 : decode cX7_append 37 = .ok (.putfield 43, 3) := by decide +kernel
theorem dX7_append_40 : decode cX7_append 40 = .ok (.iinc 2 (-8), 3) := by decide +kernel
theorem dX7_append_43 : decode cX7_append 43 = .ok (.goto (-40), 3) := by decide +kernel
theorem dX7_append_46 : decode cX7_append 46 = .ok (.return_, 1) := by decide +kernel
theorem dX11_feed_0 : decode cX11_feed 0 = .ok (.aload_n 0, 1) := by decide +kernel
theorem dX11_feed_1 : decode cX11_feed 1 = .ok (.getfield 12, 3) := by decide +kernel
theorem dX11_feed_4 : decode cX11_feed 4 = .ok (.getfield 79, 3) := by decide +kernel
theorem dX11_feed_7 : decode cX11_feed 7 = .ok (.bipush 20, 2) := by decide +kernel
theorem dX11_feed_9 : decode cX11_feed 9 = .ok (.iadd, 1) := by decide +kernel
theorem dX11_feed_10 : decode cX11_feed 10 = .ok (.sipush 6000, 3) := by decide +kernel
theorem dX11_feed_13 : decode cX11_feed 13 = .ok (.if_icmp .le 5, 3) := by decide +kernel
theorem dX11_feed_18 : decode cX11_feed 18 = .ok (.aload_n 0, 1) := by decide +kernel
theorem dX11_feed_19 : decode cX11_feed 19 = .ok (.getfield 12, 3) := by decide +kernel
theorem dX11_feed_22 : decode cX11_feed 22 = .ok (.iload_n 1, 1) := by decide +kernel
theorem dX11_feed_23 : decode cX11_feed 23 = .ok (.invokevirtual 83, 3) := by decide +kernel
theorem dX11_feed_26 : decode cX11_feed 26 = .ok (.aload_n 0, 1) := by decide +kernel
theorem dX11_feed_27 : decode cX11_feed 27 = .ok (.getfield 12, 3) := by decide +kernel
theorem dX11_feed_30 : decode cX11_feed 30 = .ok (.iload_n 2, 1) := by decide +kernel
theorem dX11_feed_31 : decode cX11_feed 31 = .ok (.invokevirtual 83, 3) := by decide +kernel
theorem dX11_feed_34 : decode cX11_feed 34 = .ok (.aload_n 0, 1) := by decide +kernel
theorem dX11_feed_35 : decode cX11_feed 35 = .ok (.getfield 12, 3) := by decide +kernel
theorem dX11_feed_38 : decode cX11_feed 38 = .ok (.iload_n 3, 1) := by decide +kernel
theorem dX11_feed_39 : decode cX11_feed 39 = .ok (.invokevirtual 83, 3) := by decide +kernel
theorem dX11_feed_42 : decode cX11_feed 42 = .ok (.aload_n 0, 1) := by decide +kernel
theorem dX11_feed_43 : decode cX11_feed 43 = .ok (.getfield 12, 3) := by decide +kernel
theorem dX11_feed_46 : decode cX11_feed 46 = .ok (.iload 4, 2) := by decide +kernel
theorem dX11_feed_48 : decode cX11_feed 48 = .ok (.invokevirtual 83, 3) := by decide +kernel
theorem dX11_feed_51 : decode cX11_feed 51 = .ok (.aload_n 0, 1) := by decide +kernel
theorem dX11_feed_52 : decode cX11_feed 52 = .ok (.getfield 12, 3) := by decide +kernel
theorem dX11_feed_55 : decode cX11_feed 55 = .ok (.iload 5, 2) := by decide +kernel
theorem dX11_feed_57 : decode cX11_feed 57 = .ok (.invokevirtual 83, 3) := by decide +kernel
theorem dX11_feed_60 : decode cX11_feed 60 = .ok (.aload_n 0, 1) := by decide +kernel
theorem dX11_feed_61 : decode cX11_feed 61 = .ok (.getfield 12, 3) := by decide +kernel
theorem dX11_feed_64 : decode cX11_feed 64 = .ok (.getfield 79, 3) := by decide +kernel
theorem dX11_feed_67 : decode cX11_feed 67 = .ok (.ireturn, 1) := by decide +kernel
theorem dX11_back_0 : decode cX11_back 0 = .ok (.iload_n 1, 1) := by decide +kernel
theorem dX11_back_1 : decode cX11_back 1 = .ok (.ifCond .lt 14, 3) := by decide +kernel
theorem dX11_back_4 : decode cX11_back 4 = .ok (.iload_n 1, 1) := by decide +kernel
theorem dX11_back_5 : decode cX11_back 5 = .ok (.aload_n 0, 1) := by decide +kernel
theorem dX11_back_6 : decode cX11_back 6 = .ok (.getfield 12, 3) := by decide +kernel
theorem dX11_back_9 : decode cX11_back 9 = .ok (.getfield 79, 3) := by decide +kernel
theorem dX11_back_12 : decode cX11_back 12 = .ok (.if_icmp .le 5, 3) := by decide +kernel
theorem dX11_back_15 : decode cX11_back 15 = .ok (.iconst (-1), 1) := by decide +kernel
theorem dX11_back_16 : decode cX11_back 16 = .ok (.ireturn, 1) := by decide +kernel
theorem dX11_back_17 : decode cX11_back 17 = .ok (.aload_n 0, 1) := by decide +kernel
theorem dX11_back_18 : decode cX11_back 18 = .ok (.getfield 12, 3) := by decide +kernel
theorem dX11_back_21 : decode cX11_back 21 = .ok (.dup, 1) := by decide +kernel
theorem dX11_back_22 : decode cX11_back 22 = .ok (.getfield 79, 3) := by decide +kernel
theorem dX11_back_25 : decode cX11_back 25 = .ok (.iload_n 1, 1) := by decide +kernel
theorem dX11_back_26 : decode cX11_back 26 = .ok (.isub, 1) := by decide +kernel
theorem dX11_back_27 : decode cX11_back 27 = .ok (.putfield 79, 3) := by decide +kernel
theorem dX11_back_30 : decode cX11_back 30 = .ok (.aload_n 0, 1) := by decide +kernel
theorem dX11_back_31 : decode cX11_back 31 = .ok (.getfield 12, 3) := by decide +kernel
theorem dX11_back_34 : decode cX11_back 34 = .ok (.getfield 79, 3) := by decide +kernel
theorem dX11_back_37 : decode cX11_back 37 = .ok (.ireturn, 1) := by decide +kernel
theorem dX11_count_0 : decode cX11_count 0 = .ok (.iload_n 1, 1) := by decide +kernel
theorem dX11_count_1 : decode cX11_count 1 = .ok (.ifCond .lt 9, 3) := by decide +kernel
theorem dX11_count_4 : decode cX11_count 4 = .ok (.iload_n 1, 1) := by decide +kernel
theorem dX11_count_5 : decode cX11_count 5 = .ok (.bipush 13, 2) := by decide +kernel
theorem dX11_count_7 : decode cX11_count 7 = .ok (.if_icmp .le 5, 3) := by decide +kernel
theorem dX11_count_10 : decode cX11_count 10 = .ok (.iconst (-1), 1) := by decide +kernel
theorem dX11_count_11 : decode cX11_count 11 = .ok (.ireturn, 1) := by decide +kernel
theorem dX11_count_12 : decode cX11_count 12 = .ok (.iload_n 1, 1) := by decide +kernel
theorem dX11_count_13 : decode cX11_count 13 = .ok (.iconst 3, 1) := by decide +kernel
theorem dX11_count_14 : decode cX11_count 14 = .ok (.if_icmp .ne 11, 3) := by decide +kernel
theorem dX11_count_17 : decode cX11_count 17 = .ok (.aload_n 0, 1) := by decide +kernel
theorem dX11_count_18 : decode cX11_count 18 = .ok (.getfield 12, 3) := by decide +kernel
theorem dX11_count_21 : decode cX11_count 21 = .ok (.getfield 79, 3) := by decide +kernel
theorem dX11_count_24 : decode cX11_count 24 = .ok (.ireturn, 1) := by decide +kernel
theorem dX11_count_25 : decode cX11_count 25 = .ok (.iload_n 1, 1) := by decide +kernel
theorem dX11_count_26 : decode cX11_count 26 = .ok (.iconst 3, 1) := by decide +kernel
theorem dX11_count_27 : decode cX11_count 27 = .ok (.if_icmp .le 12, 3) := by decide +kernel
theorem dX11_count_30 : decode cX11_count 30 = .ok (.aload_n 0, 1) := by decide +kernel
theorem dX11_count_31 : decode cX11_count 31 = .ok (.getfield 71, 3) := by decide +kernel
theorem dX11_count_34 : decode cX11_count 34 = .ok (.iload_n 1, 1) := by decide +kernel
theorem dX11_count_35 : decode cX11_count 35 = .ok (.invokevirtual 115, 3) := by decide +kernel
theorem dX11_count_38 : decode cX11_count 38 = .ok (.ireturn, 1) := by decide +kernel
theorem dX11_count_39 : decode cX11_count 39 = .ok (.aload_n 0, 1) := by decide +kernel
theorem dX11_count_40 : decode cX11_count 40 = .ok (.getfield 75, 3) := by decide +kernel
theorem dX11_count_43 : decode cX11_count 43 = .ok (.ifCond .ne 5, 3) := by decide +kernel
theorem dX11_count_46 : decode cX11_count 46 = .ok (.iconst 0, 1) := by decide +kernel
theorem dX11_count_47 : decode cX11_count 47 = .ok (.ireturn, 1) := by decide +kernel
theorem dX11_key_0 : decode cX11_key 0 = .ok (.aload_n 0, 1) := by decide +kernel
theorem dX11_key_1 : decode cX11_key 1 = .ok (.getfield 71, 3) := by decide +kernel
theorem dX11_key_4 : decode cX11_key 4 = .ok (.iload_n 1, 1) := by decide +kernel
theorem dX11_key_5 : decode cX11_key 5 = .ok (.sipush 255, 3) := by decide +kernel
theorem dX11_key_8 : decode cX11_key 8 = .ok (.iand, 1) := by decide +kernel
theorem dX11_key_9 : decode cX11_key 9 = .ok (.invokevirtual 149, 3) := by decide +kernel
theorem dX11_key_12 : decode cX11_key 12 = .ok (.ireturn, 1) := by decide +kernel
theorem dX11_output_0 : decode cX11_output 0 = .ok (.aload_n 0, 1) := by decide +kernel
theorem dX11_output_1 : decode cX11_output 1 = .ok (.getfield 71, 3) := by decide +kernel
theorem dX11_output_4 : decode cX11_output 4 = .ok (.iload_n 1, 1) := by decide +kernel
theorem dX11_output_5 : decode cX11_output 5 = .ok (.invokevirtual 153, 3) := by decide +kernel
theorem dX11_output_8 : decode cX11_output 8 = .ok (.ireturn, 1) := by decide +kernel
theorem dX11_process_0 : decode cX11_process 0 = .ok (.aload_n 0, 1) := by decide +kernel
theorem dX11_process_1 : decode cX11_process 1 = .ok (.getfield 71, 3) := by decide +kernel
theorem dX11_process_4 : decode cX11_process 4 = .ok (.iload_n 1, 1) := by decide +kernel
theorem dX11_process_5 : decode cX11_process 5 = .ok (.iload_n 2, 1) := by decide +kernel
theorem dX11_process_6 : decode cX11_process 6 = .ok (.invokevirtual 156, 3) := by decide +kernel
theorem dX11_process_9 : decode cX11_process 9 = .ok (.ireturn, 1) := by decide +kernel
theorem dX11_cell_0 : decode cX11_cell 0 = .ok (.aload_n 0, 1) := by decide +kernel
theorem dX11_cell_1 : decode cX11_cell 1 = .ok (.getfield 71, 3) := by decide +kernel
theorem dX11_cell_4 : decode cX11_cell 4 = .ok (.iload_n 1, 1) := by decide +kernel
theorem dX11_cell_5 : decode cX11_cell 5 = .ok (.invokevirtual 160, 3) := by decide +kernel
theorem dX11_cell_8 : decode cX11_cell 8 = .ok (.ireturn, 1) := by decide +kernel
theorem dX11_meeting_0 : decode cX11_meeting 0 = .ok (.aload_n 0, 1) := by decide +kernel
theorem dX11_meeting_1 : decode cX11_meeting 1 = .ok (.getfield 71, 3) := by decide +kernel
theorem dX11_meeting_4 : decode cX11_meeting 4 = .ok (.iload_n 1, 1) := by decide +kernel
theorem dX11_meeting_5 : decode cX11_meeting 5 = .ok (.iload_n 2, 1) := by decide +kernel
theorem dX11_meeting_6 : decode cX11_meeting 6 = .ok (.invokevirtual 163, 3) := by decide +kernel
theorem dX11_meeting_9 : decode cX11_meeting 9 = .ok (.ireturn, 1) := by decide +kernel
theorem dX11_clashes_0 : decode cX11_clashes 0 = .ok (.iconst 0, 1) := by decide +kernel
theorem dX11_clashes_1 : decode cX11_clashes 1 = .ok (.ireturn, 1) := by decide +kernel
set_option maxHeartbeats 4000000 in
set_option maxRecDepth 100000 in
/-- c_Machine_press -/
theorem c_Machine_press (l : Launch) (dC : Nat → ClassId) (dI : Nat → Nat → Nat) (h0 sz : Nat) (fm : List Value) (a1 : Int32) : Met l yX3_press (.code yX3_press cX3_press 3 (some .boolean) :: wP) ({ frames := 0, cells := 0, slots := 0, locals := 0 }) (va_Pc [.ref h0, .int a1] (fun U => U.heap.size = sz ∧ kJ 21 [(0, .int 0)] fm ∧ va_P (dC, dI) vwCl [(h0, .inr (3, fm))] U.heap ∧ va_K (dC, dI) vwCl [] U ∧ va_D (fun _ => True) [(h0, .inr (3, fm))])) (va_Qi (fun r (_ : Unit) => r = 0) (fun (_ : Unit) (_ : State) => True) (va_A [(h0, .inr (3, fm))] sz)) 0 0 (va_A [(h0, .inr (3, fm))] sz) := by
  refine Met.ofW (cc := cX3_press) (maxL := 3) (ret := (some .boolean)) (by decide) rfl ?_
  intro p e s m args below meth c s₁ B hml hv
  obtain ⟨rfl, hsz, hM, hP, hK, hD0⟩ := hv
  have hx := B.exec
  have hb := B.bytes
  have hr := B.returns
  have hts := atoms_spec (ws := .code yX3_press cX3_press 3 (some .boolean) :: wP) B.pre
  have hown : s.vm.findClass RX3 = some m.cls := findClass_of_methodNamed B.named
  subst hsz
  have hD := hD0.self (sz := s.heap.size)
  generalize hAe : va_A [(h0, .inr (3, fm))] s.heap.size = A at hD ⊢
  have hA : ∀ q : Nat, s.heap.size ≤ q → A q := fun q h => by rw [← hAe]; exact Or.inr h
  have hS : va_S A s.heap s.heap [] := va_S.rf
  have hl := lv_entry ([.ref h0, .int a1]) (n := 3) (Nat.le_of_ble_eq_true rfl)
  rw [lg_entry_eq]
  generalize (lg_sl ([.ref h0, .int a1]) ++ List.replicate (3 - (lg_sl ([.ref h0, .int a1])).length) Slot.unset).toArray = ls at hl ⊢
  obtain ⟨H, hHe⟩ : ∃ H, H = s.heap := ⟨_, rfl⟩
  rw [← hHe] at hP ⊢
  have hS : va_S A s.heap H [] := by rw [hHe]; exact hS
  have hl : lv_has ls 3 [(0, .ref h0), (1, .int a1)] := hl
  refine lv_aload_n hx hb dX3_press_0 rfl (lv_at hl 0 rfl) ?_
  refine va_get (D := (dC, dI)) (ci := 3) (v := .int 0) (C := RX3) (T := TX3) (N := 21) hx hb hts iX3 hown hK hP 0 rfl rfl 0 (by decide) (hts _ (bP 390 rfl)) (fun _ h9 => h9) (kJ_at hM 0 rfl) dX3_press_1 ?_
  refine lv_if_eq (tgt := 18) hx hb dX3_press_4 (by decide) (fun _ => ?_) (fun h => absurd h (by decide))
  refine lv_iconst (v := 0) hx hb dX3_press_18 (by decide) ?_
  exact W.zret (v := 0) hx hb hr (by first | decide | (rw [hw]; decide)) (fun t ht hW => ⟨⟨0, (), rfl, rfl, trivial⟩, hS.F ht⟩) hS.2.2 dX3_press_19
set_option maxHeartbeats 4000000 in
set_option maxRecDepth 100000 in
/-- c_Machine_shown -/
theorem c_Machine_shown (l : Launch) (dC : Nat → ClassId) (dI : Nat → Nat → Nat) (h0 sz : Nat) (fm : List Value) (a1 : Int32) : Met l yX3_shown (.code yX3_shown cX3_shown 2 (some .int) :: wP) ({ frames := 0, cells := 0, slots := 0, locals := 0 }) (va_Pc [.ref h0, .int a1] (fun U => U.heap.size = sz ∧ kJ 21 [(0, .int 0)] fm ∧ va_P (dC, dI) vwCl [(h0, .inr (3, fm))] U.heap ∧ va_K (dC, dI) vwCl [] U ∧ va_D (fun _ => True) [(h0, .inr (3, fm))])) (va_Qi (fun r (_ : Unit) => r = -1) (fun (_ : Unit) (_ : State) => True) (va_A [(h0, .inr (3, fm))] sz)) 0 0 (va_A [(h0, .inr (3, fm))] sz) := by
  refine Met.ofW (cc := cX3_shown) (maxL := 2) (ret := (some .int)) (by decide) rfl ?_
  intro p e s m args below meth c s₁ B hml hv
  obtain ⟨rfl, hsz, hM, hP, hK, hD0⟩ := hv
  have hx := B.exec
  have hb := B.bytes
  have hr := B.returns
  have hts := atoms_spec (ws := .code yX3_shown cX3_shown 2 (some .int) :: wP) B.pre
  have hown : s.vm.findClass RX3 = some m.cls := findClass_of_methodNamed B.named
  subst hsz
  have hD := hD0.self (sz := s.heap.size)
  generalize hAe : va_A [(h0, .inr (3, fm))] s.heap.size = A at hD ⊢
  have hA : ∀ q : Nat, s.heap.size ≤ q → A q := fun q h => by rw [← hAe]; exact Or.inr h
  have hS : va_S A s.heap s.heap [] := va_S.rf
  have hl := lv_entry ([.ref h0, .int a1]) (n := 2) (Nat.le_of_ble_eq_true rfl)
  rw [lg_entry_eq]
  generalize (lg_sl ([.ref h0, .int a1]) ++ List.replicate (2 - (lg_sl ([.ref h0, .int a1])).length) Slot.unset).toArray = ls at hl ⊢
  obtain ⟨H, hHe⟩ : ∃ H, H = s.heap := ⟨_, rfl⟩
  rw [← hHe] at hP ⊢
  have hS : va_S A s.heap H [] := by rw [hHe]; exact hS
  have hl : lv_has ls 2 [(0, .ref h0), (1, .int a1)] := hl
  refine lv_aload_n hx hb dX3_shown_0 rfl (lv_at hl 0 rfl) ?_
  refine va_get (D := (dC, dI)) (ci := 3) (v := .int 0) (C := RX3) (T := TX3) (N := 21) hx hb hts iX3 hown hK hP 0 rfl rfl 0 (by decide) (hts _ (bP 390 rfl)) (fun _ h9 => h9) (kJ_at hM 0 rfl) dX3_shown_1 ?_
  refine lv_if_eq (tgt := 18) hx hb dX3_shown_4 (by decide) (fun _ => ?_) (fun h => absurd h (by decide))
  refine lv_iconst (v := (-1)) hx hb dX3_shown_18 (by decide) ?_
  exact W.iret (v := (-1)) hx hb hr (fun t ht hW => ⟨⟨(-1), (), rfl, rfl, trivial⟩, hS.F ht⟩) hS.2.2 dX3_shown_19
set_option maxHeartbeats 4000000 in
set_option maxRecDepth 100000 in
/-- c_Machine_tellProcess -/
theorem c_Machine_tellProcess (l : Launch) (dC : Nat → ClassId) (dI : Nat → Nat → Nat) (h0 sz : Nat) (fm : List Value) (a1 a2 : Int32) : Met l yX3_tellProcess (.code yX3_tellProcess cX3_tellProcess 5 (some .int) :: wP) ({ frames := 0, cells := 0, slots := 0, locals := 0 }) (va_Pc [.ref h0, .int a1, .int a2] (fun U => U.heap.size = sz ∧ kJ 21 [(0, .int 0)] fm ∧ va_P (dC, dI) vwCl [(h0, .inr (3, fm))] U.heap ∧ va_K (dC, dI) vwCl [] U ∧ va_D (fun _ => True) [(h0, .inr (3, fm))])) (va_Qi (fun r (_ : Unit) => r = -1) (fun (_ : Unit) (_ : State) => True) (va_A [(h0, .inr (3, fm))] sz)) 0 0 (va_A [(h0, .inr (3, fm))] sz) := by
  refine Met.ofW (cc := cX3_tellProcess) (maxL := 5) (ret := (some .int)) (by decide) rfl ?_
  intro p e s m args below meth c s₁ B hml hv
  obtain ⟨rfl, hsz, hM, hP, hK, hD0⟩ := hv
  have hx := B.exec
  have hb := B.bytes
  have hr := B.returns
  have hts := atoms_spec (ws := .code yX3_tellProcess cX3_tellProcess 5 (some .int) :: wP) B.pre
  have hown : s.vm.findClass RX3 = some m.cls := findClass_of_methodNamed B.named
  subst hsz
  have hD := hD0.self (sz := s.heap.size)
  generalize hAe : va_A [(h0, .inr (3, fm))] s.heap.size = A at hD ⊢
  have hA : ∀ q : Nat, s.heap.size ≤ q → A q := fun q h => by rw [← hAe]; exact Or.inr h
  have hS : va_S A s.heap s.heap [] := va_S.rf
  have hl := lv_entry ([.ref h0, .int a1, .int a2]) (n := 5) (Nat.le_of_ble_eq_true rfl)
  rw [lg_entry_eq]
  generalize (lg_sl ([.ref h0, .int a1, .int a2]) ++ List.replicate (5 - (lg_sl ([.ref h0, .int a1, .int a2])).length) Slot.unset).toArray = ls at hl ⊢
  obtain ⟨H, hHe⟩ : ∃ H, H = s.heap := ⟨_, rfl⟩
  rw [← hHe] at hP ⊢
  have hS : va_S A s.heap H [] := by rw [hHe]; exact hS
  have hl : lv_has ls 5 [(0, .ref h0), (1, .int a1), (2, .int a2)] := hl
  refine lv_aload_n hx hb dX3_tellProcess_0 rfl (lv_at hl 0 rfl) ?_
  refine va_get (D := (dC, dI)) (ci := 3) (v := .int 0) (C := RX3) (T := TX3) (N := 21) hx hb hts iX3 hown hK hP 0 rfl rfl 0 (by decide) (hts _ (bP 390 rfl)) (fun _ h9 => h9) (kJ_at hM 0 rfl) dX3_tellProcess_1 ?_
  refine lv_if_eq (tgt := 18) hx hb dX3_tellProcess_4 (by decide) (fun _ => ?_) (fun h => absurd h (by decide))
  refine lv_null hx hb dX3_tellProcess_18 ?_
  refine lv_astore_nN (lv' := [(3, .null), (0, .ref h0), (1, .int a1), (2, .int a2)]) hx hb dX3_tellProcess_19 rfl hl (by decide) rfl (fun ls hl => ?_)
  refine lv_aload_nN hx hb dX3_tellProcess_20 rfl (lv_at hl 0 rfl) ?_
  refine lv_ifnonnullN hx hb dX3_tellProcess_21 ?_
  refine lv_iconst (v := (-1)) hx hb dX3_tellProcess_24 (by decide) ?_
  exact W.iret (v := (-1)) hx hb hr (fun t ht hW => ⟨⟨(-1), (), rfl, rfl, trivial⟩, hS.F ht⟩) hS.2.2 dX3_tellProcess_25
set_option maxHeartbeats 4000000 in
set_option maxRecDepth 100000 in
/-- c_Machine_tellCell -/
theorem c_Machine_tellCell (l : Launch) (dC : Nat → ClassId) (dI : Nat → Nat → Nat) (h0 sz : Nat) (fm : List Value) (a1 : Int32) : Met l yX3_tellCell (.code yX3_tellCell cX3_tellCell 5 (some .int) :: wP) ({ frames := 0, cells := 0, slots := 0, locals := 0 }) (va_Pc [.ref h0, .int a1] (fun U => U.heap.size = sz ∧ kJ 21 [(0, .int 0)] fm ∧ va_P (dC, dI) vwCl [(h0, .inr (3, fm))] U.heap ∧ va_K (dC, dI) vwCl [] U ∧ va_D (fun _ => True) [(h0, .inr (3, fm))])) (va_Qi (fun r (_ : Unit) => r = 0) (fun (_ : Unit) (_ : State) => True) (va_A [(h0, .inr (3, fm))] sz)) 0 0 (va_A [(h0, .inr (3, fm))] sz) := by
  refine Met.ofW (cc := cX3_tellCell) (maxL := 5) (ret := (some .int)) (by decide) rfl ?_
  intro p e s m args below meth c s₁ B hml hv
  obtain ⟨rfl, hsz, hM, hP, hK, hD0⟩ := hv
  have hx := B.exec
  have hb := B.bytes
  have hr := B.returns
  have hts := atoms_spec (ws := .code yX3_tellCell cX3_tellCell 5 (some .int) :: wP) B.pre
  have hown : s.vm.findClass RX3 = some m.cls := findClass_of_methodNamed B.named
  subst hsz
  have hD := hD0.self (sz := s.heap.size)
  generalize hAe : va_A [(h0, .inr (3, fm))] s.heap.size = A at hD ⊢
  have hA : ∀ q : Nat, s.heap.size ≤ q → A q := fun q h => by rw [← hAe]; exact Or.inr h
  have hS : va_S A s.heap s.heap [] := va_S.rf
  have hl := lv_entry ([.ref h0, .int a1]) (n := 5) (Nat.le_of_ble_eq_true rfl)
  rw [lg_entry_eq]
  generalize (lg_sl ([.ref h0, .int a1]) ++ List.replicate (5 - (lg_sl ([.ref h0, .int a1])).length) Slot.unset).toArray = ls at hl ⊢
  obtain ⟨H, hHe⟩ : ∃ H, H = s.heap := ⟨_, rfl⟩
  rw [← hHe] at hP ⊢
  have hS : va_S A s.heap H [] := by rw [hHe]; exact hS
  have hl : lv_has ls 5 [(0, .ref h0), (1, .int a1)] := hl
  refine lv_aload_n hx hb dX3_tellCell_0 rfl (lv_at hl 0 rfl) ?_
  refine va_get (D := (dC, dI)) (ci := 3) (v := .int 0) (C := RX3) (T := TX3) (N := 21) hx hb hts iX3 hown hK hP 0 rfl rfl 0 (by decide) (hts _ (bP 390 rfl)) (fun _ h9 => h9) (kJ_at hM 0 rfl) dX3_tellCell_1 ?_
  refine lv_if_eq (tgt := 11) hx hb dX3_tellCell_4 (by decide) (fun _ => ?_) (fun h => absurd h (by decide))
  refine lv_iconst (v := 0) hx hb dX3_tellCell_11 (by decide) ?_
  exact W.iret (v := 0) hx hb hr (fun t ht hW => ⟨⟨0, (), rfl, rfl, trivial⟩, hS.F ht⟩) hS.2.2 dX3_tellCell_12
set_option maxHeartbeats 4000000 in
set_option maxRecDepth 100000 in
/-- c_Machine_tellMeeting -/
theorem c_Machine_tellMeeting (l : Launch) (dC : Nat → ClassId) (dI : Nat → Nat → Nat) (h0 sz : Nat) (fm : List Value) (a1 a2 : Int32) : Met l yX3_tellMeeting (.code yX3_tellMeeting cX3_tellMeeting 3 (some .int) :: wP) ({ frames := 0, cells := 0, slots := 0, locals := 0 }) (va_Pc [.ref h0, .int a1, .int a2] (fun U => U.heap.size = sz ∧ kJ 21 [(0, .int 0)] fm ∧ va_P (dC, dI) vwCl [(h0, .inr (3, fm))] U.heap ∧ va_K (dC, dI) vwCl [] U ∧ va_D (fun _ => True) [(h0, .inr (3, fm))])) (va_Qi (fun r (_ : Unit) => r = -1) (fun (_ : Unit) (_ : State) => True) (va_A [(h0, .inr (3, fm))] sz)) 0 0 (va_A [(h0, .inr (3, fm))] sz) := by
  refine Met.ofW (cc := cX3_tellMeeting) (maxL := 3) (ret := (some .int)) (by decide) rfl ?_
  intro p e s m args below meth c s₁ B hml hv
  obtain ⟨rfl, hsz, hM, hP, hK, hD0⟩ := hv
  have hx := B.exec
  have hb := B.bytes
  have hr := B.returns
  have hts := atoms_spec (ws := .code yX3_tellMeeting cX3_tellMeeting 3 (some .int) :: wP) B.pre
  have hown : s.vm.findClass RX3 = some m.cls := findClass_of_methodNamed B.named
  subst hsz
  have hD := hD0.self (sz := s.heap.size)
  generalize hAe : va_A [(h0, .inr (3, fm))] s.heap.size = A at hD ⊢
  have hA : ∀ q : Nat, s.heap.size ≤ q → A q := fun q h => by rw [← hAe]; exact Or.inr h
  have hS : va_S A s.heap s.heap [] := va_S.rf
  have hl := lv_entry ([.ref h0, .int a1, .int a2]) (n := 3) (Nat.le_of_ble_eq_true rfl)
  rw [lg_entry_eq]
  generalize (lg_sl ([.ref h0, .int a1, .int a2]) ++ List.replicate (3 - (lg_sl ([.ref h0, .int a1, .int a2])).length) Slot.unset).toArray = ls at hl ⊢
  obtain ⟨H, hHe⟩ : ∃ H, H = s.heap := ⟨_, rfl⟩
  rw [← hHe] at hP ⊢
  have hS : va_S A s.heap H [] := by rw [hHe]; exact hS
  have hl : lv_has ls 3 [(0, .ref h0), (1, .int a1), (2, .int a2)] := hl
  refine lv_aload_n hx hb dX3_tellMeeting_0 rfl (lv_at hl 0 rfl) ?_
  refine va_get (D := (dC, dI)) (ci := 3) (v := .int 0) (C := RX3) (T := TX3) (N := 21) hx hb hts iX3 hown hK hP 0 rfl rfl 0 (by decide) (hts _ (bP 390 rfl)) (fun _ h9 => h9) (kJ_at hM 0 rfl) dX3_tellMeeting_1 ?_
  refine lv_if_eq (tgt := 19) hx hb dX3_tellMeeting_4 (by decide) (fun _ => ?_) (fun h => absurd h (by decide))
  refine lv_iconst (v := (-1)) hx hb dX3_tellMeeting_19 (by decide) ?_
  exact W.iret (v := (-1)) hx hb hr (fun t ht hW => ⟨⟨(-1), (), rfl, rfl, trivial⟩, hS.F ht⟩) hS.2.2 dX3_tellMeeting_20
set_option maxHeartbeats 4000000 in
set_option maxRecDepth 100000 in
/-- c_Machine_tally -/
theorem c_Machine_tally (l : Launch) (dC : Nat → ClassId) (dI : Nat → Nat → Nat) (h0 sz : Nat) (fm : List Value) (a1 : Int32) : Met l yX3_tally (.code yX3_tally cX3_tally 2 (some .int) :: wP) ({ frames := 0, cells := 0, slots := 0, locals := 0 }) (va_Pc [.ref h0, .int a1] (fun U => U.heap.size = sz ∧ kJ 21 [(0, .int 0)] fm ∧ va_P (dC, dI) vwCl [(h0, .inr (3, fm))] U.heap ∧ va_K (dC, dI) vwCl [] U ∧ va_D (fun _ => True) [(h0, .inr (3, fm))])) (va_Qi (fun r (_ : Unit) => r = 0) (fun (_ : Unit) (_ : State) => True) (va_A [(h0, .inr (3, fm))] sz)) 0 0 (va_A [(h0, .inr (3, fm))] sz) := by
  refine Met.ofW (cc := cX3_tally) (maxL := 2) (ret := (some .int)) (by decide) rfl ?_
  intro p e s m args below meth c s₁ B hml hv
  obtain ⟨rfl, hsz, hM, hP, hK, hD0⟩ := hv
  have hx := B.exec
  have hb := B.bytes
  have hr := B.returns
  have hts := atoms_spec (ws := .code yX3_tally cX3_tally 2 (some .int) :: wP) B.pre
  have hown : s.vm.findClass RX3 = some m.cls := findClass_of_methodNamed B.named
  subst hsz
  have hD := hD0.self (sz := s.heap.size)
  generalize hAe : va_A [(h0, .inr (3, fm))] s.heap.size = A at hD ⊢
  have hA : ∀ q : Nat, s.heap.size ≤ q → A q := fun q h => by rw [← hAe]; exact Or.inr h
  have hS : va_S A s.heap s.heap [] := va_S.rf
  have hl := lv_entry ([.ref h0, .int a1]) (n := 2) (Nat.le_of_ble_eq_true rfl)
  rw [lg_entry_eq]
  generalize (lg_sl ([.ref h0, .int a1]) ++ List.replicate (2 - (lg_sl ([.ref h0, .int a1])).length) Slot.unset).toArray = ls at hl ⊢
  obtain ⟨H, hHe⟩ : ∃ H, H = s.heap := ⟨_, rfl⟩
  rw [← hHe] at hP ⊢
  have hS : va_S A s.heap H [] := by rw [hHe]; exact hS
  have hl : lv_has ls 2 [(0, .ref h0), (1, .int a1)] := hl
  refine lv_aload_n hx hb dX3_tally_0 rfl (lv_at hl 0 rfl) ?_
  refine va_get (D := (dC, dI)) (ci := 3) (v := .int 0) (C := RX3) (T := TX3) (N := 21) hx hb hts iX3 hown hK hP 0 rfl rfl 0 (by decide) (hts _ (bP 390 rfl)) (fun _ h9 => h9) (kJ_at hM 0 rfl) dX3_tally_1 ?_
  refine lv_if_ne (tgt := 9) hx hb dX3_tally_4 (by decide) (fun h => absurd h (by decide)) (fun _ => ?_)
  refine lv_iconst (v := 0) hx hb dX3_tally_7 (by decide) ?_
  exact W.iret (v := 0) hx hb hr (fun t ht hW => ⟨⟨0, (), rfl, rfl, trivial⟩, hS.F ht⟩) hS.2.2 dX3_tally_8
set_option maxHeartbeats 4000000 in
set_option maxRecDepth 100000 in
/-- c_MeetingHouse_key -/
theorem c_MeetingHouse_key (l : Launch) (dC : Nat → ClassId) (dI : Nat → Nat → Nat) (h0 sz : Nat) (fx fm : List Value) (qm : Nat) (a1 : Int32) : Met l yX11_key (.code yX11_key cX11_key 2 (some .boolean) :: wP) ({ frames := 1, cells := 0, slots := 0, locals := 26 }) (va_Pc [.ref h0, .int a1] (fun U => U.heap.size = sz ∧ kJ 9 [(7, .ref qm)] fx ∧ kJ 21 [(0, .int 0)] fm ∧ va_P (dC, dI) vwCl [(h0, .inr (11, fx)), (qm, .inr (3, fm))] U.heap ∧ va_K (dC, dI) vwCl [] U ∧ va_D (fun _ => True) [(h0, .inr (11, fx)), (qm, .inr (3, fm))])) (va_Qi (fun r (_ : Unit) => r = 0) (fun (_ : Unit) (_ : State) => True) (va_A [(h0, .inr (11, fx)), (qm, .inr (3, fm))] sz)) 0 0 (va_A [(h0, .inr (11, fx)), (qm, .inr (3, fm))] sz) := by
  refine Met.ofW (cc := cX11_key) (maxL := 2) (ret := (some .boolean)) (by decide) rfl ?_
  intro p e s m args below meth c s₁ B hml hv
  obtain ⟨rfl, hsz, hJ, hM, hP, hK, hD0⟩ := hv
  have hx := B.exec
  have hb := B.bytes
  have hr := B.returns
  have hts := atoms_spec (ws := .code yX11_key cX11_key 2 (some .boolean) :: wP) B.pre
  have hown : s.vm.findClass RX11 = some m.cls := findClass_of_methodNamed B.named
  subst hsz
  have hD := hD0.self (sz := s.heap.size)
  generalize hAe : va_A [(h0, .inr (11, fx)), (qm, .inr (3, fm))] s.heap.size = A at hD ⊢
  have hA : ∀ q : Nat, s.heap.size ≤ q → A q := fun q h => by rw [← hAe]; exact Or.inr h
  have hS : va_S A s.heap s.heap [] := va_S.rf
  have hl := lv_entry ([.ref h0, .int a1]) (n := 2) (Nat.le_of_ble_eq_true rfl)
  rw [lg_entry_eq]
  generalize (lg_sl ([.ref h0, .int a1]) ++ List.replicate (2 - (lg_sl ([.ref h0, .int a1])).length) Slot.unset).toArray = ls at hl ⊢
  obtain ⟨H, hHe⟩ : ∃ H, H = s.heap := ⟨_, rfl⟩
  rw [← hHe] at hP ⊢
  have hS : va_S A s.heap H [] := by rw [hHe]; exact hS
  have hl : lv_has ls 2 [(0, .ref h0), (1, .int a1)] := hl
  refine lv_aload_n hx hb dX11_key_0 rfl (lv_at hl 0 rfl) ?_
  refine va_get (D := (dC, dI)) (ci := 11) (v := .ref qm) (C := RX11) (T := TX11) (N := 9) hx hb hts iX11 hown hK hP 0 rfl rfl 7 (by decide) (hts _ (bP 387 rfl)) (fun _ h9 => h9) (kJ_at hJ 0 rfl) dX11_key_1 ?_
  refine lv_iload_n hx hb dX11_key_4 rfl (lv_at hl 1 rfl) ?_
  refine lv_sipush (v := 255) hx hb dX11_key_5 (by decide) ?_
  refine lv_iand hx hb dX11_key_8 ?_
  refine lv_topi (fun z1 ez1 => ?_)
  have hPc := hP.sub (ws' := [(qm, .inr (3, fm))]) [1] rfl
  have hDc := hD.sub (ws' := [(qm, .inr (3, fm))]) [1] (by decide) rfl
  have hKc := hK.sub (tys' := []) [] rfl
  have hFc := va_free (wc := [(qm, .inr (3, fm))]) hD hS hA [1] rfl
  refine va_calli (va_runV (As := [.int z1]) (rest := []) ⟨hx, hb, hml, hown, hts⟩ (c_Machine_press l dC dI qm H.size fm z1) (cwV 1 hts (gV (y := yX3_press) _ 397 398 399 384 389 rfl rfl rfl rfl rfl) rfl rfl rfl (by decide +kernel) ⟨Nat.le_of_ble_eq_true rfl, Nat.le_of_ble_eq_true rfl⟩) ⟨fun a U g mk q => by obtain ⟨q0, q1, qJ, qP, qK, qD⟩ := q; exact ⟨q0, q1, qJ, qP, va_K.moved (u := U) (U := U.calling g mk a) (Vm.Alike.refl U.vm) qK, qD⟩, va_recv hKc hPc (ci := 3) (q0 := 0) rfl rfl, fun U hU hW => ⟨rfl, by rw [hU], hM, by rw [hU]; exact hPc, va_K.moved hW.alike hKc, hDc.weaken (fun _ _ _ _ => trivial)⟩⟩ rfl rfl hl.1 rfl (lv_room (Nat.le_of_ble_eq_true rfl)) dX11_key_9 ⟨Nat.le_of_ble_eq_true rfl, Nat.le_of_ble_eq_true rfl⟩) hS (fun q _ h => hFc q h) hFc (fun r u t H1 locs ht hvm hw hB hz1 hk1 hS => ?_)
  subst hw
  exact W.zret (v := 0) hx hb hr (by first | decide | (rw [hw]; decide)) (fun t ht hW => ⟨⟨0, (), rfl, rfl, trivial⟩, hS.F ht⟩) hS.2.2 dX11_key_12
set_option maxHeartbeats 4000000 in
set_option maxRecDepth 100000 in
/-- c_MeetingHouse_output -/
theorem c_MeetingHouse_output (l : Launch) (dC : Nat → ClassId) (dI : Nat → Nat → Nat) (h0 sz : Nat) (fx fm : List Value) (qm : Nat) (a1 : Int32) : Met l yX11_output (.code yX11_output cX11_output 2 (some .int) :: wP) ({ frames := 1, cells := 0, slots := 0, locals := 26 }) (va_Pc [.ref h0, .int a1] (fun U => U.heap.size = sz ∧ kJ 9 [(7, .ref qm)] fx ∧ kJ 21 [(0, .int 0)] fm ∧ va_P (dC, dI) vwCl [(h0, .inr (11, fx)), (qm, .inr (3, fm))] U.heap ∧ va_K (dC, dI) vwCl [] U ∧ va_D (fun _ => True) [(h0, .inr (11, fx)), (qm, .inr (3, fm))])) (va_Qi (fun r (_ : Unit) => r = (-1)) (fun (_ : Unit) (_ : State) => True) (va_A [(h0, .inr (11, fx)), (qm, .inr (3, fm))] sz)) 0 0 (va_A [(h0, .inr (11, fx)), (qm, .inr (3, fm))] sz) := by
  refine Met.ofW (cc := cX11_output) (maxL := 2) (ret := (some .int)) (by decide) rfl ?_
  intro p e s m args below meth c s₁ B hml hv
  obtain ⟨rfl, hsz, hJ, hM, hP, hK, hD0⟩ := hv
  have hx := B.exec
  have hb := B.bytes
  have hr := B.returns
  have hts := atoms_spec (ws := .code yX11_output cX11_output 2 (some .int) :: wP) B.pre
  have hown : s.vm.findClass RX11 = some m.cls := findClass_of_methodNamed B.named
  subst hsz
  have hD := hD0.self (sz := s.heap.size)
  generalize hAe : va_A [(h0, .inr (11, fx)), (qm, .inr (3, fm))] s.heap.size = A at hD ⊢
  have hA : ∀ q : Nat, s.heap.size ≤ q → A q := fun q h => by rw [← hAe]; exact Or.inr h
  have hS : va_S A s.heap s.heap [] := va_S.rf
  have hl := lv_entry ([.ref h0, .int a1]) (n := 2) (Nat.le_of_ble_eq_true rfl)
  rw [lg_entry_eq]
  generalize (lg_sl ([.ref h0, .int a1]) ++ List.replicate (2 - (lg_sl ([.ref h0, .int a1])).length) Slot.unset).toArray = ls at hl ⊢
  obtain ⟨H, hHe⟩ : ∃ H, H = s.heap := ⟨_, rfl⟩
  rw [← hHe] at hP ⊢
  have hS : va_S A s.heap H [] := by rw [hHe]; exact hS
  have hl : lv_has ls 2 [(0, .ref h0), (1, .int a1)] := hl
  refine lv_aload_n hx hb dX11_output_0 rfl (lv_at hl 0 rfl) ?_
  refine va_get (D := (dC, dI)) (ci := 11) (v := .ref qm) (C := RX11) (T := TX11) (N := 9) hx hb hts iX11 hown hK hP 0 rfl rfl 7 (by decide) (hts _ (bP 387 rfl)) (fun _ h9 => h9) (kJ_at hJ 0 rfl) dX11_output_1 ?_
  refine lv_iload_n hx hb dX11_output_4 rfl (lv_at hl 1 rfl) ?_
  have hPc := hP.sub (ws' := [(qm, .inr (3, fm))]) [1] rfl
  have hDc := hD.sub (ws' := [(qm, .inr (3, fm))]) [1] (by decide) rfl
  have hKc := hK.sub (tys' := []) [] rfl
  have hFc := va_free (wc := [(qm, .inr (3, fm))]) hD hS hA [1] rfl
  refine va_calli (va_runV (As := [.int a1]) (rest := []) ⟨hx, hb, hml, hown, hts⟩ (c_Machine_shown l dC dI qm H.size fm a1) (cwV 1 hts (gV (y := yX3_shown) _ 401 402 403 384 391 rfl rfl rfl rfl rfl) rfl rfl rfl (by decide +kernel) ⟨Nat.le_of_ble_eq_true rfl, Nat.le_of_ble_eq_true rfl⟩) ⟨fun a U g mk q => by obtain ⟨q0, q1, qJ, qP, qK, qD⟩ := q; exact ⟨q0, q1, qJ, qP, va_K.moved (u := U) (U := U.calling g mk a) (Vm.Alike.refl U.vm) qK, qD⟩, va_recv hKc hPc (ci := 3) (q0 := 0) rfl rfl, fun U hU hW => ⟨rfl, by rw [hU], hM, by rw [hU]; exact hPc, va_K.moved hW.alike hKc, hDc.weaken (fun _ _ _ _ => trivial)⟩⟩ rfl rfl hl.1 rfl (lv_room (Nat.le_of_ble_eq_true rfl)) dX11_output_5 ⟨Nat.le_of_ble_eq_true rfl, Nat.le_of_ble_eq_true rfl⟩) hS (fun q _ h => hFc q h) hFc (fun r u t H1 locs ht hvm hw hB hz1 hk1 hS => ?_)
  subst hw
  exact W.iret (v := (-1)) hx hb hr (fun t ht hW => ⟨⟨(-1), (), rfl, rfl, trivial⟩, hS.F ht⟩) hS.2.2 dX11_output_8
set_option maxHeartbeats 4000000 in
set_option maxRecDepth 100000 in
/-- c_MeetingHouse_process -/
theorem c_MeetingHouse_process (l : Launch) (dC : Nat → ClassId) (dI : Nat → Nat → Nat) (h0 sz : Nat) (fx fm : List Value) (qm : Nat) (a1 a2 : Int32) : Met l yX11_process (.code yX11_process cX11_process 3 (some .int) :: wP) ({ frames := 1, cells := 0, slots := 0, locals := 26 }) (va_Pc [.ref h0, .int a1, .int a2] (fun U => U.heap.size = sz ∧ kJ 9 [(7, .ref qm)] fx ∧ kJ 21 [(0, .int 0)] fm ∧ va_P (dC, dI) vwCl [(h0, .inr (11, fx)), (qm, .inr (3, fm))] U.heap ∧ va_K (dC, dI) vwCl [] U ∧ va_D (fun _ => True) [(h0, .inr (11, fx)), (qm, .inr (3, fm))])) (va_Qi (fun r (_ : Unit) => r = (-1)) (fun (_ : Unit) (_ : State) => True) (va_A [(h0, .inr (11, fx)), (qm, .inr (3, fm))] sz)) 0 0 (va_A [(h0, .inr (11, fx)), (qm, .inr (3, fm))] sz) := by
  refine Met.ofW (cc := cX11_process) (maxL := 3) (ret := (some .int)) (by decide) rfl ?_
  intro p e s m args below meth c s₁ B hml hv
  obtain ⟨rfl, hsz, hJ, hM, hP, hK, hD0⟩ := hv
  have hx := B.exec
  have hb := B.bytes
  have hr := B.returns
  have hts := atoms_spec (ws := .code yX11_process cX11_process 3 (some .int) :: wP) B.pre
  have hown : s.vm.findClass RX11 = some m.cls := findClass_of_methodNamed B.named
  subst hsz
  have hD := hD0.self (sz := s.heap.size)
  generalize hAe : va_A [(h0, .inr (11, fx)), (qm, .inr (3, fm))] s.heap.size = A at hD ⊢
  have hA : ∀ q : Nat, s.heap.size ≤ q → A q := fun q h => by rw [← hAe]; exact Or.inr h
  have hS : va_S A s.heap s.heap [] := va_S.rf
  have hl := lv_entry ([.ref h0, .int a1, .int a2]) (n := 3) (Nat.le_of_ble_eq_true rfl)
  rw [lg_entry_eq]
  generalize (lg_sl ([.ref h0, .int a1, .int a2]) ++ List.replicate (3 - (lg_sl ([.ref h0, .int a1, .int a2])).length) Slot.unset).toArray = ls at hl ⊢
  obtain ⟨H, hHe⟩ : ∃ H, H = s.heap := ⟨_, rfl⟩
  rw [← hHe] at hP ⊢
  have hS : va_S A s.heap H [] := by rw [hHe]; exact hS
  have hl : lv_has ls 3 [(0, .ref h0), (1, .int a1), (2, .int a2)] := hl
  refine lv_aload_n hx hb dX11_process_0 rfl (lv_at hl 0 rfl) ?_
  refine va_get (D := (dC, dI)) (ci := 11) (v := .ref qm) (C := RX11) (T := TX11) (N := 9) hx hb hts iX11 hown hK hP 0 rfl rfl 7 (by decide) (hts _ (bP 387 rfl)) (fun _ h9 => h9) (kJ_at hJ 0 rfl) dX11_process_1 ?_
  refine lv_iload_n hx hb dX11_process_4 rfl (lv_at hl 1 rfl) ?_
  refine lv_iload_n hx hb dX11_process_5 rfl (lv_at hl 2 rfl) ?_
  have hPc := hP.sub (ws' := [(qm, .inr (3, fm))]) [1] rfl
  have hDc := hD.sub (ws' := [(qm, .inr (3, fm))]) [1] (by decide) rfl
  have hKc := hK.sub (tys' := []) [] rfl
  have hFc := va_free (wc := [(qm, .inr (3, fm))]) hD hS hA [1] rfl
  refine va_calli (va_runV (As := [.int a1, .int a2]) (rest := []) ⟨hx, hb, hml, hown, hts⟩ (c_Machine_tellProcess l dC dI qm H.size fm a1 a2) (cwV 2 hts (gV (y := yX3_tellProcess) _ 405 406 407 384 392 rfl rfl rfl rfl rfl) rfl rfl rfl (by decide +kernel) ⟨Nat.le_of_ble_eq_true rfl, Nat.le_of_ble_eq_true rfl⟩) ⟨fun a U g mk q => by obtain ⟨q0, q1, qJ, qP, qK, qD⟩ := q; exact ⟨q0, q1, qJ, qP, va_K.moved (u := U) (U := U.calling g mk a) (Vm.Alike.refl U.vm) qK, qD⟩, va_recv hKc hPc (ci := 3) (q0 := 0) rfl rfl, fun U hU hW => ⟨rfl, by rw [hU], hM, by rw [hU]; exact hPc, va_K.moved hW.alike hKc, hDc.weaken (fun _ _ _ _ => trivial)⟩⟩ rfl rfl hl.1 rfl (lv_room (Nat.le_of_ble_eq_true rfl)) dX11_process_6 ⟨Nat.le_of_ble_eq_true rfl, Nat.le_of_ble_eq_true rfl⟩) hS (fun q _ h => hFc q h) hFc (fun r u t H1 locs ht hvm hw hB hz1 hk1 hS => ?_)
  subst hw
  exact W.iret (v := (-1)) hx hb hr (fun t ht hW => ⟨⟨(-1), (), rfl, rfl, trivial⟩, hS.F ht⟩) hS.2.2 dX11_process_9
set_option maxHeartbeats 4000000 in
set_option maxRecDepth 100000 in
/-- c_MeetingHouse_cell -/
theorem c_MeetingHouse_cell (l : Launch) (dC : Nat → ClassId) (dI : Nat → Nat → Nat) (h0 sz : Nat) (fx fm : List Value) (qm : Nat) (a1 : Int32) : Met l yX11_cell (.code yX11_cell cX11_cell 2 (some .int) :: wP) ({ frames := 1, cells := 0, slots := 0, locals := 26 }) (va_Pc [.ref h0, .int a1] (fun U => U.heap.size = sz ∧ kJ 9 [(7, .ref qm)] fx ∧ kJ 21 [(0, .int 0)] fm ∧ va_P (dC, dI) vwCl [(h0, .inr (11, fx)), (qm, .inr (3, fm))] U.heap ∧ va_K (dC, dI) vwCl [] U ∧ va_D (fun _ => True) [(h0, .inr (11, fx)), (qm, .inr (3, fm))])) (va_Qi (fun r (_ : Unit) => r = 0) (fun (_ : Unit) (_ : State) => True) (va_A [(h0, .inr (11, fx)), (qm, .inr (3, fm))] sz)) 0 0 (va_A [(h0, .inr (11, fx)), (qm, .inr (3, fm))] sz) := by
  refine Met.ofW (cc := cX11_cell) (maxL := 2) (ret := (some .int)) (by decide) rfl ?_
  intro p e s m args below meth c s₁ B hml hv
  obtain ⟨rfl, hsz, hJ, hM, hP, hK, hD0⟩ := hv
  have hx := B.exec
  have hb := B.bytes
  have hr := B.returns
  have hts := atoms_spec (ws := .code yX11_cell cX11_cell 2 (some .int) :: wP) B.pre
  have hown : s.vm.findClass RX11 = some m.cls := findClass_of_methodNamed B.named
  subst hsz
  have hD := hD0.self (sz := s.heap.size)
  generalize hAe : va_A [(h0, .inr (11, fx)), (qm, .inr (3, fm))] s.heap.size = A at hD ⊢
  have hA : ∀ q : Nat, s.heap.size ≤ q → A q := fun q h => by rw [← hAe]; exact Or.inr h
  have hS : va_S A s.heap s.heap [] := va_S.rf
  have hl := lv_entry ([.ref h0, .int a1]) (n := 2) (Nat.le_of_ble_eq_true rfl)
  rw [lg_entry_eq]
  generalize (lg_sl ([.ref h0, .int a1]) ++ List.replicate (2 - (lg_sl ([.ref h0, .int a1])).length) Slot.unset).toArray = ls at hl ⊢
  obtain ⟨H, hHe⟩ : ∃ H, H = s.heap := ⟨_, rfl⟩
  rw [← hHe] at hP ⊢
  have hS : va_S A s.heap H [] := by rw [hHe]; exact hS
  have hl : lv_has ls 2 [(0, .ref h0), (1, .int a1)] := hl
  refine lv_aload_n hx hb dX11_cell_0 rfl (lv_at hl 0 rfl) ?_
  refine va_get (D := (dC, dI)) (ci := 11) (v := .ref qm) (C := RX11) (T := TX11) (N := 9) hx hb hts iX11 hown hK hP 0 rfl rfl 7 (by decide) (hts _ (bP 387 rfl)) (fun _ h9 => h9) (kJ_at hJ 0 rfl) dX11_cell_1 ?_
  refine lv_iload_n hx hb dX11_cell_4 rfl (lv_at hl 1 rfl) ?_
  have hPc := hP.sub (ws' := [(qm, .inr (3, fm))]) [1] rfl
  have hDc := hD.sub (ws' := [(qm, .inr (3, fm))]) [1] (by decide) rfl
  have hKc := hK.sub (tys' := []) [] rfl
  have hFc := va_free (wc := [(qm, .inr (3, fm))]) hD hS hA [1] rfl
  refine va_calli (va_runV (As := [.int a1]) (rest := []) ⟨hx, hb, hml, hown, hts⟩ (c_Machine_tellCell l dC dI qm H.size fm a1) (cwV 1 hts (gV (y := yX3_tellCell) _ 409 410 411 384 393 rfl rfl rfl rfl rfl) rfl rfl rfl (by decide +kernel) ⟨Nat.le_of_ble_eq_true rfl, Nat.le_of_ble_eq_true rfl⟩) ⟨fun a U g mk q => by obtain ⟨q0, q1, qJ, qP, qK, qD⟩ := q; exact ⟨q0, q1, qJ, qP, va_K.moved (u := U) (U := U.calling g mk a) (Vm.Alike.refl U.vm) qK, qD⟩, va_recv hKc hPc (ci := 3) (q0 := 0) rfl rfl, fun U hU hW => ⟨rfl, by rw [hU], hM, by rw [hU]; exact hPc, va_K.moved hW.alike hKc, hDc.weaken (fun _ _ _ _ => trivial)⟩⟩ rfl rfl hl.1 rfl (lv_room (Nat.le_of_ble_eq_true rfl)) dX11_cell_5 ⟨Nat.le_of_ble_eq_true rfl, Nat.le_of_ble_eq_true rfl⟩) hS (fun q _ h => hFc q h) hFc (fun r u t H1 locs ht hvm hw hB hz1 hk1 hS => ?_)
  subst hw
  exact W.iret (v := 0) hx hb hr (fun t ht hW => ⟨⟨0, (), rfl, rfl, trivial⟩, hS.F ht⟩) hS.2.2 dX11_cell_8
set_option maxHeartbeats 4000000 in
set_option maxRecDepth 100000 in
/-- c_MeetingHouse_meeting -/
theorem c_MeetingHouse_meeting (l : Launch) (dC : Nat → ClassId) (dI : Nat → Nat → Nat) (h0 sz : Nat) (fx fm : List Value) (qm : Nat) (a1 a2 : Int32) : Met l yX11_meeting (.code yX11_meeting cX11_meeting 3 (some .int) :: wP) ({ frames := 1, cells := 0, slots := 0, locals := 26 }) (va_Pc [.ref h0, .int a1, .int a2] (fun U => U.heap.size = sz ∧ kJ 9 [(7, .ref qm)] fx ∧ kJ 21 [(0, .int 0)] fm ∧ va_P (dC, dI) vwCl [(h0, .inr (11, fx)), (qm, .inr (3, fm))] U.heap ∧ va_K (dC, dI) vwCl [] U ∧ va_D (fun _ => True) [(h0, .inr (11, fx)), (qm, .inr (3, fm))])) (va_Qi (fun r (_ : Unit) => r = (-1)) (fun (_ : Unit) (_ : State) => True) (va_A [(h0, .inr (11, fx)), (qm, .inr (3, fm))] sz)) 0 0 (va_A [(h0, .inr (11, fx)), (qm, .inr (3, fm))] sz) := by
  refine Met.ofW (cc := cX11_meeting) (maxL := 3) (ret := (some .int)) (by decide) rfl ?_
  intro p e s m args below meth c s₁ B hml hv
  obtain ⟨rfl, hsz, hJ, hM, hP, hK, hD0⟩ := hv
  have hx := B.exec
  have hb := B.bytes
  have hr := B.returns
  have hts := atoms_spec (ws := .code yX11_meeting cX11_meeting 3 (some .int) :: wP) B.pre
  have hown : s.vm.findClass RX11 = some m.cls := findClass_of_methodNamed B.named
  subst hsz
  have hD := hD0.self (sz := s.heap.size)
  generalize hAe : va_A [(h0, .inr (11, fx)), (qm, .inr (3, fm))] s.heap.size = A at hD ⊢
  have hA : ∀ q : Nat, s.heap.size ≤ q → A q := fun q h => by rw [← hAe]; exact Or.inr h
  have hS : va_S A s.heap s.heap [] := va_S.rf
  have hl := lv_entry ([.ref h0, .int a1, .int a2]) (n := 3) (Nat.le_of_ble_eq_true rfl)
  rw [lg_entry_eq]
  generalize (lg_sl ([.ref h0, .int a1, .int a2]) ++ List.replicate (3 - (lg_sl ([.ref h0, .int a1, .int a2])).length) Slot.unset).toArray = ls at hl ⊢
  obtain ⟨H, hHe⟩ : ∃ H, H = s.heap := ⟨_, rfl⟩
  rw [← hHe] at hP ⊢
  have hS : va_S A s.heap H [] := by rw [hHe]; exact hS
  have hl : lv_has ls 3 [(0, .ref h0), (1, .int a1), (2, .int a2)] := hl
  refine lv_aload_n hx hb dX11_meeting_0 rfl (lv_at hl 0 rfl) ?_
  refine va_get (D := (dC, dI)) (ci := 11) (v := .ref qm) (C := RX11) (T := TX11) (N := 9) hx hb hts iX11 hown hK hP 0 rfl rfl 7 (by decide) (hts _ (bP 387 rfl)) (fun _ h9 => h9) (kJ_at hJ 0 rfl) dX11_meeting_1 ?_
  refine lv_iload_n hx hb dX11_meeting_4 rfl (lv_at hl 1 rfl) ?_
  refine lv_iload_n hx hb dX11_meeting_5 rfl (lv_at hl 2 rfl) ?_
  have hPc := hP.sub (ws' := [(qm, .inr (3, fm))]) [1] rfl
  have hDc := hD.sub (ws' := [(qm, .inr (3, fm))]) [1] (by decide) rfl
  have hKc := hK.sub (tys' := []) [] rfl
  have hFc := va_free (wc := [(qm, .inr (3, fm))]) hD hS hA [1] rfl
  refine va_calli (va_runV (As := [.int a1, .int a2]) (rest := []) ⟨hx, hb, hml, hown, hts⟩ (c_Machine_tellMeeting l dC dI qm H.size fm a1 a2) (cwV 2 hts (gV (y := yX3_tellMeeting) _ 413 414 415 384 394 rfl rfl rfl rfl rfl) rfl rfl rfl (by decide +kernel) ⟨Nat.le_of_ble_eq_true rfl, Nat.le_of_ble_eq_true rfl⟩) ⟨fun a U g mk q => by obtain ⟨q0, q1, qJ, qP, qK, qD⟩ := q; exact ⟨q0, q1, qJ, qP, va_K.moved (u := U) (U := U.calling g mk a) (Vm.Alike.refl U.vm) qK, qD⟩, va_recv hKc hPc (ci := 3) (q0 := 0) rfl rfl, fun U hU hW => ⟨rfl, by rw [hU], hM, by rw [hU]; exact hPc, va_K.moved hW.alike hKc, hDc.weaken (fun _ _ _ _ => trivial)⟩⟩ rfl rfl hl.1 rfl (lv_room (Nat.le_of_ble_eq_true rfl)) dX11_meeting_6 ⟨Nat.le_of_ble_eq_true rfl, Nat.le_of_ble_eq_true rfl⟩) hS (fun q _ h => hFc q h) hFc (fun r u t H1 locs ht hvm hw hB hz1 hk1 hS => ?_)
  subst hw
  exact W.iret (v := (-1)) hx hb hr (fun t ht hW => ⟨⟨(-1), (), rfl, rfl, trivial⟩, hS.F ht⟩) hS.2.2 dX11_meeting_9
set_option maxHeartbeats 4000000 in
set_option maxRecDepth 100000 in
/-- c_MeetingHouse_clashes -/
theorem c_MeetingHouse_clashes (l : Launch) (dC : Nat → ClassId) (dI : Nat → Nat → Nat) (h0 sz : Nat) (fx : List Value) : Met l yX11_clashes (.code yX11_clashes cX11_clashes 1 (some .int) :: wP) ({ frames := 0, cells := 0, slots := 0, locals := 0 }) (va_Pc [.ref h0] (fun U => U.heap.size = sz ∧ True ∧ va_P (dC, dI) vwCl [(h0, .inr (11, fx))] U.heap ∧ va_K (dC, dI) vwCl [] U ∧ va_D (fun _ => True) [(h0, .inr (11, fx))])) (va_Qi (fun r (_ : Unit) => r = 0) (fun (_ : Unit) (_ : State) => True) (va_A [(h0, .inr (11, fx))] sz)) 0 0 (va_A [(h0, .inr (11, fx))] sz) := by
  refine Met.ofW (cc := cX11_clashes) (maxL := 1) (ret := (some .int)) (by decide) rfl ?_
  intro p e s m args below meth c s₁ B hml hv
  obtain ⟨rfl, hsz, hTr, hP, hK, hD0⟩ := hv
  have hx := B.exec
  have hb := B.bytes
  have hr := B.returns
  have hts := atoms_spec (ws := .code yX11_clashes cX11_clashes 1 (some .int) :: wP) B.pre
  have hown : s.vm.findClass RX11 = some m.cls := findClass_of_methodNamed B.named
  subst hsz
  have hD := hD0.self (sz := s.heap.size)
  generalize hAe : va_A [(h0, .inr (11, fx))] s.heap.size = A at hD ⊢
  have hA : ∀ q : Nat, s.heap.size ≤ q → A q := fun q h => by rw [← hAe]; exact Or.inr h
  have hS : va_S A s.heap s.heap [] := va_S.rf
  have hl := lv_entry ([.ref h0]) (n := 1) (Nat.le_of_ble_eq_true rfl)
  rw [lg_entry_eq]
  generalize (lg_sl ([.ref h0]) ++ List.replicate (1 - (lg_sl ([.ref h0])).length) Slot.unset).toArray = ls at hl ⊢
  obtain ⟨H, hHe⟩ : ∃ H, H = s.heap := ⟨_, rfl⟩
  rw [← hHe] at hP ⊢
  have hS : va_S A s.heap H [] := by rw [hHe]; exact hS
  have hl : lv_has ls 1 [(0, .ref h0)] := hl
  refine lv_iconst (v := 0) hx hb dX11_clashes_0 (by decide) ?_
  exact W.iret (v := 0) hx hb hr (fun t ht hW => ⟨⟨0, (), rfl, rfl, trivial⟩, hS.F ht⟩) hS.2.2 dX11_clashes_1
theorem cnt4 {x : Int32} (h : ¬ x ≤ 13) : (-1 : Int32) = cnt x := cnt2 (Int32.not_le.mp h)
theorem cnt5 {x : Int32} (h1 : ¬ x < 0) (h2 : x ≤ 13) : (0 : Int32) = cnt x := (if_neg (fun h => h.elim h1 (fun h => absurd h2 (Int32.not_le.mpr h)))).symm
set_option maxHeartbeats 4000000 in
set_option maxRecDepth 100000 in
/-- c_MeetingHouse_count -/
theorem c_MeetingHouse_count (l : Launch) (dC : Nat → ClassId) (dI : Nat → Nat → Nat) (h0 sz : Nat) (fx ft fm : List Value) (qt qm : Nat) (a1 : Int32) : Met l yX11_count (.code yX11_count cX11_count 2 (some .int) :: wP) ({ frames := 1, cells := 0, slots := 0, locals := 26 }) (va_Pc [.ref h0, .int a1] (fun U => U.heap.size = sz ∧ kJ 9 [(8, .int 0), (7, .ref qm), (0, .ref qt)] fx ∧ kJ 19 [(1, .int 0)] ft ∧ kJ 21 [(0, .int 0)] fm ∧ va_P (dC, dI) vwCl [(h0, .inr (11, fx)), (qt, .inr (7, ft)), (qm, .inr (3, fm))] U.heap ∧ va_K (dC, dI) vwCl [] U ∧ va_D (fun _ => True) [(h0, .inr (11, fx)), (qt, .inr (7, ft)), (qm, .inr (3, fm))])) (va_Qi (fun r (_ : Unit) => r = cnt a1) (fun (_ : Unit) (_ : State) => True) (va_A [(h0, .inr (11, fx)), (qt, .inr (7, ft)), (qm, .inr (3, fm))] sz)) 0 0 (va_A [(h0, .inr (11, fx)), (qt, .inr (7, ft)), (qm, .inr (3, fm))] sz) := by
  refine Met.ofW (cc := cX11_count) (maxL := 2) (ret := (some .int)) (by decide) rfl ?_
  intro p e s m args below meth c s₁ B hml hv
  obtain ⟨rfl, hsz, hJ, hT, hM, hP, hK, hD0⟩ := hv
  have hx := B.exec
  have hb := B.bytes
  have hr := B.returns
  have hts := atoms_spec (ws := .code yX11_count cX11_count 2 (some .int) :: wP) B.pre
  have hown : s.vm.findClass RX11 = some m.cls := findClass_of_methodNamed B.named
  subst hsz
  have hD := hD0.self (sz := s.heap.size)
  generalize hAe : va_A [(h0, .inr (11, fx)), (qt, .inr (7, ft)), (qm, .inr (3, fm))] s.heap.size = A at hD ⊢
  have hA : ∀ q : Nat, s.heap.size ≤ q → A q := fun q h => by rw [← hAe]; exact Or.inr h
  have hS : va_S A s.heap s.heap [] := va_S.rf
  have hl := lv_entry ([.ref h0, .int a1]) (n := 2) (Nat.le_of_ble_eq_true rfl)
  rw [lg_entry_eq]
  generalize (lg_sl ([.ref h0, .int a1]) ++ List.replicate (2 - (lg_sl ([.ref h0, .int a1])).length) Slot.unset).toArray = ls at hl ⊢
  obtain ⟨H, hHe⟩ : ∃ H, H = s.heap := ⟨_, rfl⟩
  rw [← hHe] at hP ⊢
  have hS : va_S A s.heap H [] := by rw [hHe]; exact hS
  have hl : lv_has ls 2 [(0, .ref h0), (1, .int a1)] := hl
  refine lv_iload_n hx hb dX11_count_0 rfl (lv_at hl 1 rfl) ?_
  refine lv_if_lt (tgt := 10) hx hb dX11_count_1 (by decide) (fun h1 => ?_) (fun h1 => ?_)
  · refine lv_iconst (v := (-1)) hx hb dX11_count_10 (by decide) ?_
    exact W.iret (v := (-1)) hx hb hr (fun t ht hW => ⟨⟨(-1), (), rfl, by first | exact cnt1 h1 | exact cnt4 h7 | exact cnt5 h1 h7, trivial⟩, hS.F ht⟩) hS.2.2 dX11_count_11
  · refine lv_iload_n hx hb dX11_count_4 rfl (lv_at hl 1 rfl) ?_
    refine lv_bipush (v := 13) hx hb dX11_count_5 (by decide) ?_
    refine lv_icmp_le (tgt := 12) hx hb dX11_count_7 (by decide) (fun h7 => ?_) (fun h7 => ?_)
    · refine lv_iload_n hx hb dX11_count_12 rfl (lv_at hl 1 rfl) ?_
      refine lv_iconst (v := 3) hx hb dX11_count_13 (by decide) ?_
      refine lv_icmp_ne (tgt := 25) hx hb dX11_count_14 (by decide) (fun h14 => ?_) (fun h14 => ?_)
      · refine lv_iload_n hx hb dX11_count_25 rfl (lv_at hl 1 rfl) ?_
        refine lv_iconst (v := 3) hx hb dX11_count_26 (by decide) ?_
        refine lv_icmp_le (tgt := 39) hx hb dX11_count_27 (by decide) (fun h27 => ?_) (fun h27 => ?_)
        · refine lv_aload_n hx hb dX11_count_39 rfl (lv_at hl 0 rfl) ?_
          refine va_get (D := (dC, dI)) (ci := 11) (v := .int 0) (C := RX11) (T := TX11) (N := 9) hx hb hts iX11 hown hK hP 0 rfl rfl 8 (by decide) (hts _ (bP 388 rfl)) (fun _ h9 => h9) (kJ_at hJ 0 rfl) dX11_count_40 ?_
          refine lv_if_ne (tgt := 48) hx hb dX11_count_43 (by decide) (fun h => absurd h (by decide)) (fun _ => ?_)
          refine lv_iconst (v := 0) hx hb dX11_count_46 (by decide) ?_
          exact W.iret (v := 0) hx hb hr (fun t ht hW => ⟨⟨0, (), rfl, by first | exact cnt1 h1 | exact cnt4 h7 | exact cnt5 h1 h7, trivial⟩, hS.F ht⟩) hS.2.2 dX11_count_47
        · refine lv_aload_n hx hb dX11_count_30 rfl (lv_at hl 0 rfl) ?_
          refine va_get (D := (dC, dI)) (ci := 11) (v := .ref qm) (C := RX11) (T := TX11) (N := 9) hx hb hts iX11 hown hK hP 0 rfl rfl 7 (by decide) (hts _ (bP 387 rfl)) (fun _ h9 => h9) (kJ_at hJ 1 rfl) dX11_count_31 ?_
          refine lv_iload_n hx hb dX11_count_34 rfl (lv_at hl 1 rfl) ?_
          have hPc := hP.sub (ws' := [(qm, .inr (3, fm))]) [2] rfl
          have hDc := hD.sub (ws' := [(qm, .inr (3, fm))]) [2] (by decide) rfl
          have hKc := hK.sub (tys' := []) [] rfl
          have hFc := va_free (wc := [(qm, .inr (3, fm))]) hD hS hA [2] rfl
          refine va_calli (va_runV (As := [.int a1]) (rest := []) ⟨hx, hb, hml, hown, hts⟩ (c_Machine_tally l dC dI qm H.size fm a1) (cwV 1 hts (gV (y := yX3_tally) _ 418 419 420 384 395 rfl rfl rfl rfl rfl) rfl rfl rfl (by decide +kernel) ⟨Nat.le_of_ble_eq_true rfl, Nat.le_of_ble_eq_true rfl⟩) ⟨fun a U g mk q => by obtain ⟨q0, q1, qJ, qP, qK, qD⟩ := q; exact ⟨q0, q1, qJ, qP, va_K.moved (u := U) (U := U.calling g mk a) (Vm.Alike.refl U.vm) qK, qD⟩, va_recv hKc hPc (ci := 3) (q0 := 0) rfl rfl, fun U hU hW => ⟨rfl, by rw [hU], hM, by rw [hU]; exact hPc, va_K.moved hW.alike hKc, hDc.weaken (fun _ _ _ _ => trivial)⟩⟩ rfl rfl hl.1 rfl (lv_room (Nat.le_of_ble_eq_true rfl)) dX11_count_35 ⟨Nat.le_of_ble_eq_true rfl, Nat.le_of_ble_eq_true rfl⟩) hS (fun q _ h => hFc q h) hFc (fun r u t H1 locs ht hvm hw hB hz1 hk1 hS => ?_)
          subst hw
          exact W.iret (v := 0) hx hb hr (fun t ht hW => ⟨⟨0, (), rfl, by first | exact cnt1 h1 | exact cnt4 h7 | exact cnt5 h1 h7, trivial⟩, hS.F ht⟩) hS.2.2 dX11_count_38
      · refine lv_aload_n hx hb dX11_count_17 rfl (lv_at hl 0 rfl) ?_
        refine va_get (D := (dC, dI)) (ci := 11) (v := .ref qt) (C := RX11) (T := TX11) (N := 9) hx hb hts iX11 hown hK hP 0 rfl rfl 0 (by decide) (hts _ (bP 345 rfl)) (fun _ h9 => h9) (kJ_at hJ 2 rfl) dX11_count_18 ?_
        refine va_get (D := (dC, dI)) (ci := 7) (v := .int 0) (C := RX7) (T := TX7) (N := 19) hx hb hts iX7 hown hK hP 1 rfl rfl 1 (by decide) (hts _ (bP 421 rfl)) (fun _ h9 => h9) (kJ_at hT 0 rfl) dX11_count_21 ?_
        exact W.iret (v := 0) hx hb hr (fun t ht hW => ⟨⟨0, (), rfl, by first | exact cnt1 h1 | exact cnt4 h7 | exact cnt5 h1 h7, trivial⟩, hS.F ht⟩) hS.2.2 dX11_count_24
    · refine lv_iconst (v := (-1)) hx hb dX11_count_10 (by decide) ?_
      exact W.iret (v := (-1)) hx hb hr (fun t ht hW => ⟨⟨(-1), (), rfl, by first | exact cnt1 h1 | exact cnt4 h7 | exact cnt5 h1 h7, trivial⟩, hS.F ht⟩) hS.2.2 dX11_count_11
set_option maxHeartbeats 4000000 in
set_option maxRecDepth 100000 in
/-- c_MeetingHouse_back -/
theorem c_MeetingHouse_back (l : Launch) (dC : Nat → ClassId) (dI : Nat → Nat → Nat) (h0 sz : Nat) (fx ft : List Value) (qt : Nat) (a1 : Int32) : Met l yX11_back (.code yX11_back cX11_back 2 (some .int) :: wP) ({ frames := 0, cells := 0, slots := 0, locals := 0 }) (va_Pc [.ref h0, .int a1] (fun U => U.heap.size = sz ∧ kJ 9 [(0, .ref qt)] fx ∧ kJ 19 [(1, .int 0)] ft ∧ va_P (dC, dI) vwCl [(h0, .inr (11, fx)), (qt, .inr (7, ft))] U.heap ∧ va_K (dC, dI) vwCl [] U ∧ va_D (fun _ => True) [(h0, .inr (11, fx)), (qt, .inr (7, ft))])) (va_Qi (fun r (_ : Unit) => r = bk a1) (fun (_ : Unit) (_ : State) => True) (va_A [(h0, .inr (11, fx)), (qt, .inr (7, ft))] sz)) 0 0 (va_A [(h0, .inr (11, fx)), (qt, .inr (7, ft))] sz) := by
  refine Met.ofW (cc := cX11_back) (maxL := 2) (ret := (some .int)) (by decide) rfl ?_
  intro p e s m args below meth c s₁ B hml hv
  obtain ⟨rfl, hsz, hJ, hT, hP, hK, hD0⟩ := hv
  have hx := B.exec
  have hb := B.bytes
  have hr := B.returns
  have hts := atoms_spec (ws := .code yX11_back cX11_back 2 (some .int) :: wP) B.pre
  have hown : s.vm.findClass RX11 = some m.cls := findClass_of_methodNamed B.named
  subst hsz
  have hD := hD0.self (sz := s.heap.size)
  generalize hAe : va_A [(h0, .inr (11, fx)), (qt, .inr (7, ft))] s.heap.size = A at hD ⊢
  have hA : ∀ q : Nat, s.heap.size ≤ q → A q := fun q h => by rw [← hAe]; exact Or.inr h
  have hS : va_S A s.heap s.heap [] := va_S.rf
  have hl := lv_entry ([.ref h0, .int a1]) (n := 2) (Nat.le_of_ble_eq_true rfl)
  rw [lg_entry_eq]
  generalize (lg_sl ([.ref h0, .int a1]) ++ List.replicate (2 - (lg_sl ([.ref h0, .int a1])).length) Slot.unset).toArray = ls at hl ⊢
  obtain ⟨H, hHe⟩ : ∃ H, H = s.heap := ⟨_, rfl⟩
  rw [← hHe] at hP ⊢
  have hS : va_S A s.heap H [] := by rw [hHe]; exact hS
  have hl : lv_has ls 2 [(0, .ref h0), (1, .int a1)] := hl
  refine lv_iload_n hx hb dX11_back_0 rfl (lv_at hl 1 rfl) ?_
  refine lv_if_lt (tgt := 15) hx hb dX11_back_1 (by decide) (fun h1 => ?_) (fun h1 => ?_)
  · refine lv_iconst (v := (-1)) hx hb dX11_back_15 (by decide) ?_
    exact W.iret (v := (-1)) hx hb hr (fun t ht hW => ⟨⟨(-1), (), rfl, by first | exact bk1 h1 | exact bk2 h1 h12 ez1 | exact bk3 h12, trivial⟩, hS.F ht⟩) hS.2.2 dX11_back_16
  · refine lv_iload_n hx hb dX11_back_4 rfl (lv_at hl 1 rfl) ?_
    refine lv_aload_n hx hb dX11_back_5 rfl (lv_at hl 0 rfl) ?_
    refine va_get (D := (dC, dI)) (ci := 11) (v := .ref qt) (C := RX11) (T := TX11) (N := 9) hx hb hts iX11 hown hK hP 0 rfl rfl 0 (by decide) (hts _ (bP 345 rfl)) (fun _ h9 => h9) (kJ_at hJ 0 rfl) dX11_back_6 ?_
    refine va_get (D := (dC, dI)) (ci := 7) (v := .int 0) (C := RX7) (T := TX7) (N := 19) hx hb hts iX7 hown hK hP 1 rfl rfl 1 (by decide) (hts _ (bP 421 rfl)) (fun _ h9 => h9) (kJ_at hT 0 rfl) dX11_back_9 ?_
    refine lv_icmp_le (tgt := 17) hx hb dX11_back_12 (by decide) (fun h12 => ?_) (fun h12 => ?_)
    · refine lv_aload_n hx hb dX11_back_17 rfl (lv_at hl 0 rfl) ?_
      refine va_get (D := (dC, dI)) (ci := 11) (v := .ref qt) (C := RX11) (T := TX11) (N := 9) hx hb hts iX11 hown hK hP 0 rfl rfl 0 (by decide) (hts _ (bP 345 rfl)) (fun _ h9 => h9) (kJ_at hJ 0 rfl) dX11_back_18 ?_
      refine lv_dup hx hb dX11_back_21 rfl ?_
      refine va_get (D := (dC, dI)) (ci := 7) (v := .int 0) (C := RX7) (T := TX7) (N := 19) hx hb hts iX7 hown hK hP 1 rfl rfl 1 (by decide) (hts _ (bP 421 rfl)) (fun _ h9 => h9) (kJ_at hT 0 rfl) dX11_back_22 ?_
      refine lv_iload_n hx hb dX11_back_25 rfl (lv_at hl 1 rfl) ?_
      refine lv_isub hx hb dX11_back_26 ?_
      refine lv_topi (fun z1 ez1 => ?_)
      refine kq_put [(1, .int z1)] hts iX7 tyX7 tyX7_ok nmX7 hx hb hown hK hP hD hS 1 rfl rfl hT 1 (by decide) (by decide) (hts _ (bP 421 rfl)) rfl (ty := .int) (by decide +kernel) (v := .int z1) rfl rfl dX11_back_27 (fun f h => kJ_put h _ _ (by decide)) (fun H locs ft hT hP hD hS => ?_)
      have hP : va_P (dC, dI) vwCl [(h0, .inr (11, fx)), (qt, .inr (7, ft))] H := hP
      have hD : va_D A [(h0, .inr (11, fx)), (qt, .inr (7, ft))] := hD
      refine lv_aload_n hx hb dX11_back_30 rfl (lv_at hl 0 rfl) ?_
      refine va_get (D := (dC, dI)) (ci := 11) (v := .ref qt) (C := RX11) (T := TX11) (N := 9) hx hb hts iX11 hown hK hP 0 rfl rfl 0 (by decide) (hts _ (bP 345 rfl)) (fun _ h9 => h9) (kJ_at hJ 0 rfl) dX11_back_31 ?_
      refine va_get (D := (dC, dI)) (ci := 7) (v := .int z1) (C := RX7) (T := TX7) (N := 19) hx hb hts iX7 hown hK hP 1 rfl rfl 1 (by decide) (hts _ (bP 421 rfl)) (fun _ h9 => h9) (kJ_at hT 0 rfl) dX11_back_34 ?_
      exact W.iret (v := z1) hx hb hr (fun t ht hW => ⟨⟨z1, (), rfl, by first | exact bk1 h1 | exact bk2 h1 h12 ez1 | exact bk3 h12, trivial⟩, hS.F ht⟩) hS.2.2 dX11_back_37
    · refine lv_iconst (v := (-1)) hx hb dX11_back_15 (by decide) ?_
      exact W.iret (v := (-1)) hx hb hr (fun t ht hW => ⟨⟨(-1), (), rfl, by first | exact bk1 h1 | exact bk2 h1 h12 ez1 | exact bk3 h12, trivial⟩, hS.F ht⟩) hS.2.2 dX11_back_16
set_option maxHeartbeats 4000000 in
set_option maxRecDepth 100000 in
/-- c_Text_append -/
theorem c_Text_append (l : Launch) (dC : Nat → ClassId) (dI : Nat → Nat → Nat) (h0 sz : Nat) (ft : List Value) (qa : Nat) (ca : ClassId) (f : Nat → Int32) (n : Nat) (a1 : Int32) : Met l yX7_append (.code yX7_append cX7_append 3 none :: wP) ({ frames := 0, cells := 0, slots := 0, locals := 0 }) (va_Pc [.ref h0, .int a1] (fun U => U.heap.size = sz ∧ kJ 19 [(0, .ref qa), (1, .int (nI n))] ft ∧ n + 4 ≤ 6000 ∧ va_P (dC, dI) vwCl [(h0, .inr (7, ft)), (qa, .inl (ca, 6000, .inl f))] U.heap ∧ va_K (dC, dI) vwCl [(ca, .byte)] U ∧ va_D (fun _ => True) [(h0, .inr (7, ft)), (qa, .inl (ca, 6000, .inl f))])) (va_Qv (fun u : List Value × (Nat → Int32) => kJ 19 [(1, .int (nI (n + 4))), (0, .ref qa)] u.1) (fun (u : List Value × (Nat → Int32)) (t : State) => va_P (dC, dI) vwCl [(h0, .inr (7, u.1)), (qa, .inl (ca, 6000, .inl u.2))] t.heap ∧ va_K (dC, dI) vwCl [(ca, .byte)] t ∧ va_D (va_A [(h0, .inr (7, ft)), (qa, .inl (ca, 6000, .inl f))] sz) [(h0, .inr (7, u.1)), (qa, .inl (ca, 6000, .inl u.2))]) (va_A [(h0, .inr (7, ft)), (qa, .inl (ca, 6000, .inl f))] sz)) 0 0 (va_A [(h0, .inr (7, ft)), (qa, .inl (ca, 6000, .inl f))] sz) := by
  refine Met.ofW (cc := cX7_append) (maxL := 3) (ret := none) (by decide) rfl ?_
  intro p e s m args below meth c s₁ B hml hv
  obtain ⟨rfl, hsz, hT, hn, hP, hK, hD0⟩ := hv
  have hx := B.exec
  have hb := B.bytes
  have hr := B.returns
  have hts := atoms_spec (ws := .code yX7_append cX7_append 3 none :: wP) B.pre
  have hown : s.vm.findClass RX7 = some m.cls := findClass_of_methodNamed B.named
  subst hsz
  have hD := hD0.self (sz := s.heap.size)
  generalize hAe : va_A [(h0, .inr (7, ft)), (qa, .inl (ca, 6000, .inl f))] s.heap.size = A at hD ⊢
  have hA : ∀ q : Nat, s.heap.size ≤ q → A q := fun q h => by rw [← hAe]; exact Or.inr h
  have hS : va_S A s.heap s.heap [] := va_S.rf
  have hl := lv_entry ([.ref h0, .int a1]) (n := 3) (Nat.le_of_ble_eq_true rfl)
  rw [lg_entry_eq]
  generalize (lg_sl ([.ref h0, .int a1]) ++ List.replicate (3 - (lg_sl ([.ref h0, .int a1])).length) Slot.unset).toArray = ls at hl ⊢
  obtain ⟨H, hHe⟩ : ∃ H, H = s.heap := ⟨_, rfl⟩
  rw [← hHe] at hP ⊢
  have hS : va_S A s.heap H [] := by rw [hHe]; exact hS
  have hl : lv_has ls 3 [(0, .ref h0), (1, .int a1)] := hl
  refine lv_bipush (v := 24) hx hb dX7_append_0 (by decide) ?_
  refine lv_istore_n (lv' := [(2, .int 24), (0, .ref h0), (1, .int a1)]) hx hb dX7_append_2 rfl hl (by decide) rfl (fun ls hl => ?_)
  refine lv_iload_n hx hb dX7_append_3 rfl (lv_at hl 0 rfl) ?_
  refine lv_if_lt (tgt := 46) hx hb dX7_append_4 (by decide) (fun h => absurd h (by decide)) (fun _ => ?_)
  refine lv_aload_n hx hb dX7_append_7 rfl (lv_at hl 1 rfl) ?_
  refine va_get (D := (dC, dI)) (ci := 7) (v := .int (nI (n))) (C := RX7) (T := TX7) (N := 19) hx hb hts iX7 hown hK hP 0 rfl rfl 1 (by decide) (hts _ (bP 424 rfl)) (fun _ h9 => h9) (kJ_at hT 1 rfl) dX7_append_8 ?_
  refine lv_sipush (v := 6000) hx hb dX7_append_11 (by decide) ?_
  refine lv_icmp_ge (tgt := 40) hx hb dX7_append_14 (by decide) (fun h => absurd h (nI_ge (b := 6000) (by omega) (by decide))) (fun _ => ?_)
  refine lv_aload_n hx hb dX7_append_17 rfl (lv_at hl 1 rfl) ?_
  refine va_get (D := (dC, dI)) (ci := 7) (v := .ref qa) (C := RX7) (T := TX7) (N := 19) hx hb hts iX7 hown hK hP 0 rfl rfl 0 (by decide) (hts _ (bP 294 rfl)) (fun _ h9 => h9) (kJ_at hT 0 rfl) dX7_append_18 ?_
  refine lv_aload_n hx hb dX7_append_21 rfl (lv_at hl 1 rfl) ?_
  refine va_get (D := (dC, dI)) (ci := 7) (v := .int (nI (n))) (C := RX7) (T := TX7) (N := 19) hx hb hts iX7 hown hK hP 0 rfl rfl 1 (by decide) (hts _ (bP 424 rfl)) (fun _ h9 => h9) (kJ_at hT 1 rfl) dX7_append_22 ?_
  refine lv_iload_n hx hb dX7_append_25 rfl (lv_at hl 2 rfl) ?_
  refine lv_iload_n hx hb dX7_append_26 rfl (lv_at hl 0 rfl) ?_
  refine lv_iushr hx hb dX7_append_27 rfl ?_
  refine lv_topi (fun z1 ez1 => ?_)
  refine lv_i2b hx hb dX7_append_28 rfl ?_
  refine lv_topi (fun z2 ez2 => ?_)
  refine kq_bast hx hb hK hP hD hS 1 0 rfl rfl (vp_in_nI (by omega) (by decide)) dX7_append_29 (fun H locs f ef hP hD hS => ?_)
  have hP : va_P (dC, dI) vwCl [(h0, .inr (7, ft)), (qa, .inl (ca, 6000, .inl f))] H := hP
  have hD : va_D A [(h0, .inr (7, ft)), (qa, .inl (ca, 6000, .inl f))] := hD
  clear ez1 ez2 ef
  refine lv_aload_n hx hb dX7_append_30 rfl (lv_at hl 1 rfl) ?_
  refine lv_dup hx hb dX7_append_31 rfl ?_
  refine va_get (D := (dC, dI)) (ci := 7) (v := .int (nI (n))) (C := RX7) (T := TX7) (N := 19) hx hb hts iX7 hown hK hP 0 rfl rfl 1 (by decide) (hts _ (bP 424 rfl)) (fun _ h9 => h9) (kJ_at hT 1 rfl) dX7_append_32 ?_
  refine lv_iconst (v := 1) hx hb dX7_append_35 (by decide) ?_
  refine lv_iadd hx hb dX7_append_36 ?_
  refine k_i (v := nI (n + 1)) (nI_1 _) ?_
  refine kq_put [(1, .int (nI (n + 1))), (0, .ref qa)] hts iX7 tyX7 tyX7_ok nmX7 hx hb hown hK hP hD hS 0 rfl rfl hT 1 (by decide) (by decide) (hts _ (bP 424 rfl)) rfl (ty := .int) (by decide +kernel) (v := .int (nI (n + 1))) rfl rfl dX7_append_37 (fun f h => kJ_put h _ _ (by decide)) (fun H locs ft hT hP hD hS => ?_)
  have hP : va_P (dC, dI) vwCl [(h0, .inr (7, ft)), (qa, .inl (ca, 6000, .inl f))] H := hP
  have hD : va_D A [(h0, .inr (7, ft)), (qa, .inl (ca, 6000, .inl f))] := hD
  refine lv_iinc (v := 16) (lv' := [(2, .int 16), (0, .ref h0), (1, .int a1)]) hx hb dX7_append_40 hl (k := 0) rfl (by decide) (by decide) rfl (fun ls hl => ?_)
  refine lv_goto (tgt := 3) hx hb dX7_append_43 (by decide) ?_
  refine lv_iload_n hx hb dX7_append_3 rfl (lv_at hl 0 rfl) ?_
  refine lv_if_lt (tgt := 46) hx hb dX7_append_4 (by decide) (fun h => absurd h (by decide)) (fun _ => ?_)
  refine lv_aload_n hx hb dX7_append_7 rfl (lv_at hl 1 rfl) ?_
  refine va_get (D := (dC, dI)) (ci := 7) (v := .int (nI (n + 1))) (C := RX7) (T := TX7) (N := 19) hx hb hts iX7 hown hK hP 0 rfl rfl 1 (by decide) (hts _ (bP 424 rfl)) (fun _ h9 => h9) (kJ_at hT 0 rfl) dX7_append_8 ?_
  refine lv_sipush (v := 6000) hx hb dX7_append_11 (by decide) ?_
  refine lv_icmp_ge (tgt := 40) hx hb dX7_append_14 (by decide) (fun h => absurd h (nI_ge (b := 6000) (by omega) (by decide))) (fun _ => ?_)
  refine lv_aload_n hx hb dX7_append_17 rfl (lv_at hl 1 rfl) ?_
  refine va_get (D := (dC, dI)) (ci := 7) (v := .ref qa) (C := RX7) (T := TX7) (N := 19) hx hb hts iX7 hown hK hP 0 rfl rfl 0 (by decide) (hts _ (bP 294 rfl)) (fun _ h9 => h9) (kJ_at hT 1 rfl) dX7_append_18 ?_
  refine lv_aload_n hx hb dX7_append_21 rfl (lv_at hl 1 rfl) ?_
  refine va_get (D := (dC, dI)) (ci := 7) (v := .int (nI (n + 1))) (C := RX7) (T := TX7) (N := 19) hx hb hts iX7 hown hK hP 0 rfl rfl 1 (by decide) (hts _ (bP 424 rfl)) (fun _ h9 => h9) (kJ_at hT 0 rfl) dX7_append_22 ?_
  refine lv_iload_n hx hb dX7_append_25 rfl (lv_at hl 2 rfl) ?_
  refine lv_iload_n hx hb dX7_append_26 rfl (lv_at hl 0 rfl) ?_
  refine lv_iushr hx hb dX7_append_27 rfl ?_
  refine lv_topi (fun z1 ez1 => ?_)
  refine lv_i2b hx hb dX7_append_28 rfl ?_
  refine lv_topi (fun z2 ez2 => ?_)
  refine kq_bast hx hb hK hP hD hS 1 0 rfl rfl (vp_in_nI (by omega) (by decide)) dX7_append_29 (fun H locs f ef hP hD hS => ?_)
  have hP : va_P (dC, dI) vwCl [(h0, .inr (7, ft)), (qa, .inl (ca, 6000, .inl f))] H := hP
  have hD : va_D A [(h0, .inr (7, ft)), (qa, .inl (ca, 6000, .inl f))] := hD
  clear ez1 ez2 ef
  refine lv_aload_n hx hb dX7_append_30 rfl (lv_at hl 1 rfl) ?_
  refine lv_dup hx hb dX7_append_31 rfl ?_
  refine va_get (D := (dC, dI)) (ci := 7) (v := .int (nI (n + 1))) (C := RX7) (T := TX7) (N := 19) hx hb hts iX7 hown hK hP 0 rfl rfl 1 (by decide) (hts _ (bP 424 rfl)) (fun _ h9 => h9) (kJ_at hT 0 rfl) dX7_append_32 ?_
  refine lv_iconst (v := 1) hx hb dX7_append_35 (by decide) ?_
  refine lv_iadd hx hb dX7_append_36 ?_
  refine k_i (v := nI (n + 2)) (nI_1 _) ?_
  refine kq_put [(1, .int (nI (n + 2))), (0, .ref qa)] hts iX7 tyX7 tyX7_ok nmX7 hx hb hown hK hP hD hS 0 rfl rfl hT 1 (by decide) (by decide) (hts _ (bP 424 rfl)) rfl (ty := .int) (by decide +kernel) (v := .int (nI (n + 2))) rfl rfl dX7_append_37 (fun f h => kJ_put h _ _ (by decide)) (fun H locs ft hT hP hD hS => ?_)
  have hP : va_P (dC, dI) vwCl [(h0, .inr (7, ft)), (qa, .inl (ca, 6000, .inl f))] H := hP
  have hD : va_D A [(h0, .inr (7, ft)), (qa, .inl (ca, 6000, .inl f))] := hD
  refine lv_iinc (v := 8) (lv' := [(2, .int 8), (0, .ref h0), (1, .int a1)]) hx hb dX7_append_40 hl (k := 0) rfl (by decide) (by decide) rfl (fun ls hl => ?_)
  refine lv_goto (tgt := 3) hx hb dX7_append_43 (by decide) ?_
  refine lv_iload_n hx hb dX7_append_3 rfl (lv_at hl 0 rfl) ?_
  refine lv_if_lt (tgt := 46) hx hb dX7_append_4 (by decide) (fun h => absurd h (by decide)) (fun _ => ?_)
  refine lv_aload_n hx hb dX7_append_7 rfl (lv_at hl 1 rfl) ?_
  refine va_get (D := (dC, dI)) (ci := 7) (v := .int (nI (n + 2))) (C := RX7) (T := TX7) (N := 19) hx hb hts iX7 hown hK hP 0 rfl rfl 1 (by decide) (hts _ (bP 424 rfl)) (fun _ h9 => h9) (kJ_at hT 0 rfl) dX7_append_8 ?_
  refine lv_sipush (v := 6000) hx hb dX7_append_11 (by decide) ?_
  refine lv_icmp_ge (tgt := 40) hx hb dX7_append_14 (by decide) (fun h => absurd h (nI_ge (b := 6000) (by omega) (by decide))) (fun _ => ?_)
  refine lv_aload_n hx hb dX7_append_17 rfl (lv_at hl 1 rfl) ?_
  refine va_get (D := (dC, dI)) (ci := 7) (v := .ref qa) (C := RX7) (T := TX7) (N := 19) hx hb hts iX7 hown hK hP 0 rfl rfl 0 (by decide) (hts _ (bP 294 rfl)) (fun _ h9 => h9) (kJ_at hT 1 rfl) dX7_append_18 ?_
  refine lv_aload_n hx hb dX7_append_21 rfl (lv_at hl 1 rfl) ?_
  refine va_get (D := (dC, dI)) (ci := 7) (v := .int (nI (n + 2))) (C := RX7) (T := TX7) (N := 19) hx hb hts iX7 hown hK hP 0 rfl rfl 1 (by decide) (hts _ (bP 424 rfl)) (fun _ h9 => h9) (kJ_at hT 0 rfl) dX7_append_22 ?_
  refine lv_iload_n hx hb dX7_append_25 rfl (lv_at hl 2 rfl) ?_
  refine lv_iload_n hx hb dX7_append_26 rfl (lv_at hl 0 rfl) ?_
  refine lv_iushr hx hb dX7_append_27 rfl ?_
  refine lv_topi (fun z1 ez1 => ?_)
  refine lv_i2b hx hb dX7_append_28 rfl ?_
  refine lv_topi (fun z2 ez2 => ?_)
  refine kq_bast hx hb hK hP hD hS 1 0 rfl rfl (vp_in_nI (by omega) (by decide)) dX7_append_29 (fun H locs f ef hP hD hS => ?_)
  have hP : va_P (dC, dI) vwCl [(h0, .inr (7, ft)), (qa, .inl (ca, 6000, .inl f))] H := hP
  have hD : va_D A [(h0, .inr (7, ft)), (qa, .inl (ca, 6000, .inl f))] := hD
  clear ez1 ez2 ef
  refine lv_aload_n hx hb dX7_append_30 rfl (lv_at hl 1 rfl) ?_
  refine lv_dup hx hb dX7_append_31 rfl ?_
  refine va_get (D := (dC, dI)) (ci := 7) (v := .int (nI (n + 2))) (C := RX7) (T := TX7) (N := 19) hx hb hts iX7 hown hK hP 0 rfl rfl 1 (by decide) (hts _ (bP 424 rfl)) (fun _ h9 => h9) (kJ_at hT 0 rfl) dX7_append_32 ?_
  refine lv_iconst (v := 1) hx hb dX7_append_35 (by decide) ?_
  refine lv_iadd hx hb dX7_append_36 ?_
  refine k_i (v := nI (n + 3)) (nI_1 _) ?_
  refine kq_put [(1, .int (nI (n + 3))), (0, .ref qa)] hts iX7 tyX7 tyX7_ok nmX7 hx hb hown hK hP hD hS 0 rfl rfl hT 1 (by decide) (by decide) (hts _ (bP 424 rfl)) rfl (ty := .int) (by decide +kernel) (v := .int (nI (n + 3))) rfl rfl dX7_append_37 (fun f h => kJ_put h _ _ (by decide)) (fun H locs ft hT hP hD hS => ?_)
  have hP : va_P (dC, dI) vwCl [(h0, .inr (7, ft)), (qa, .inl (ca, 6000, .inl f))] H := hP
  have hD : va_D A [(h0, .inr (7, ft)), (qa, .inl (ca, 6000, .inl f))] := hD
  refine lv_iinc (v := 0) (lv' := [(2, .int 0), (0, .ref h0), (1, .int a1)]) hx hb dX7_append_40 hl (k := 0) rfl (by decide) (by decide) rfl (fun ls hl => ?_)
  refine lv_goto (tgt := 3) hx hb dX7_append_43 (by decide) ?_
  refine lv_iload_n hx hb dX7_append_3 rfl (lv_at hl 0 rfl) ?_
  refine lv_if_lt (tgt := 46) hx hb dX7_append_4 (by decide) (fun h => absurd h (by decide)) (fun _ => ?_)
  refine lv_aload_n hx hb dX7_append_7 rfl (lv_at hl 1 rfl) ?_
  refine va_get (D := (dC, dI)) (ci := 7) (v := .int (nI (n + 3))) (C := RX7) (T := TX7) (N := 19) hx hb hts iX7 hown hK hP 0 rfl rfl 1 (by decide) (hts _ (bP 424 rfl)) (fun _ h9 => h9) (kJ_at hT 0 rfl) dX7_append_8 ?_
  refine lv_sipush (v := 6000) hx hb dX7_append_11 (by decide) ?_
  refine lv_icmp_ge (tgt := 40) hx hb dX7_append_14 (by decide) (fun h => absurd h (nI_ge (b := 6000) (by omega) (by decide))) (fun _ => ?_)
  refine lv_aload_n hx hb dX7_append_17 rfl (lv_at hl 1 rfl) ?_
  refine va_get (D := (dC, dI)) (ci := 7) (v := .ref qa) (C := RX7) (T := TX7) (N := 19) hx hb hts iX7 hown hK hP 0 rfl rfl 0 (by decide) (hts _ (bP 294 rfl)) (fun _ h9 => h9) (kJ_at hT 1 rfl) dX7_append_18 ?_
  refine lv_aload_n hx hb dX7_append_21 rfl (lv_at hl 1 rfl) ?_
  refine va_get (D := (dC, dI)) (ci := 7) (v := .int (nI (n + 3))) (C := RX7) (T := TX7) (N := 19) hx hb hts iX7 hown hK hP 0 rfl rfl 1 (by decide) (hts _ (bP 424 rfl)) (fun _ h9 => h9) (kJ_at hT 0 rfl) dX7_append_22 ?_
  refine lv_iload_n hx hb dX7_append_25 rfl (lv_at hl 2 rfl) ?_
  refine lv_iload_n hx hb dX7_append_26 rfl (lv_at hl 0 rfl) ?_
  refine lv_iushr hx hb dX7_append_27 rfl ?_
  refine lv_topi (fun z1 ez1 => ?_)
  refine lv_i2b hx hb dX7_append_28 rfl ?_
  refine lv_topi (fun z2 ez2 => ?_)
  refine kq_bast hx hb hK hP hD hS 1 0 rfl rfl (vp_in_nI (by omega) (by decide)) dX7_append_29 (fun H locs f ef hP hD hS => ?_)
  have hP : va_P (dC, dI) vwCl [(h0, .inr (7, ft)), (qa, .inl (ca, 6000, .inl f))] H := hP
  have hD : va_D A [(h0, .inr (7, ft)), (qa, .inl (ca, 6000, .inl f))] := hD
  clear ez1 ez2 ef
  refine lv_aload_n hx hb dX7_append_30 rfl (lv_at hl 1 rfl) ?_
  refine lv_dup hx hb dX7_append_31 rfl ?_
  refine va_get (D := (dC, dI)) (ci := 7) (v := .int (nI (n + 3))) (C := RX7) (T := TX7) (N := 19) hx hb hts iX7 hown hK hP 0 rfl rfl 1 (by decide) (hts _ (bP 424 rfl)) (fun _ h9 => h9) (kJ_at hT 0 rfl) dX7_append_32 ?_
  refine lv_iconst (v := 1) hx hb dX7_append_35 (by decide) ?_
  refine lv_iadd hx hb dX7_append_36 ?_
  refine k_i (v := nI (n + 4)) (nI_1 _) ?_
  refine kq_put [(1, .int (nI (n + 4))), (0, .ref qa)] hts iX7 tyX7 tyX7_ok nmX7 hx hb hown hK hP hD hS 0 rfl rfl hT 1 (by decide) (by decide) (hts _ (bP 424 rfl)) rfl (ty := .int) (by decide +kernel) (v := .int (nI (n + 4))) rfl rfl dX7_append_37 (fun f h => kJ_put h _ _ (by decide)) (fun H locs ft hT hP hD hS => ?_)
  have hP : va_P (dC, dI) vwCl [(h0, .inr (7, ft)), (qa, .inl (ca, 6000, .inl f))] H := hP
  have hD : va_D A [(h0, .inr (7, ft)), (qa, .inl (ca, 6000, .inl f))] := hD
  refine lv_iinc (v := (-8)) (lv' := [(2, .int (-8)), (0, .ref h0), (1, .int a1)]) hx hb dX7_append_40 hl (k := 0) rfl (by decide) (by decide) rfl (fun ls hl => ?_)
  refine lv_goto (tgt := 3) hx hb dX7_append_43 (by decide) ?_
  refine lv_iload_n hx hb dX7_append_3 rfl (lv_at hl 0 rfl) ?_
  refine lv_if_lt (tgt := 46) hx hb dX7_append_4 (by decide) (fun _ => ?_) (fun h => absurd (by decide) h)
  exact W.vret hx hb hr (fun t ht hW => ⟨⟨(ft, f), rfl, hT, by rw [ht]; exact hP, va_K.moved hW.alike hK, hD⟩, hS.F ht⟩) hS.2.2 dX7_append_46
set_option maxHeartbeats 4000000 in
set_option maxRecDepth 100000 in
/-- c_MeetingHouse_feed -/
theorem c_MeetingHouse_feed (l : Launch) (dC : Nat → ClassId) (dI : Nat → Nat → Nat) (h0 sz : Nat) (fx ft : List Value) (qt qa : Nat) (ca : ClassId) (f : Nat → Int32) (a1 a2 a3 a4 a5 : Int32) : Met l yX11_feed (.code yX11_feed cX11_feed 6 (some .int) :: wP) ({ frames := 1, cells := 0, slots := 0, locals := 26 }) (va_Pc [.ref h0, .int a1, .int a2, .int a3, .int a4, .int a5] (fun U => U.heap.size = sz ∧ kJ 9 [(0, .ref qt)] fx ∧ kJ 19 [(0, .ref qa), (1, .int 0)] ft ∧ va_P (dC, dI) vwCl [(h0, .inr (11, fx)), (qt, .inr (7, ft)), (qa, .inl (ca, 6000, .inl f))] U.heap ∧ va_K (dC, dI) vwCl [(ca, .byte)] U ∧ va_D (fun _ => True) [(h0, .inr (11, fx)), (qt, .inr (7, ft)), (qa, .inl (ca, 6000, .inl f))])) (va_Qi (fun r (_ : Unit) => r = 20) (fun (_ : Unit) (_ : State) => True) (va_A [(h0, .inr (11, fx)), (qt, .inr (7, ft)), (qa, .inl (ca, 6000, .inl f))] sz)) 0 0 (va_A [(h0, .inr (11, fx)), (qt, .inr (7, ft)), (qa, .inl (ca, 6000, .inl f))] sz) := by
  refine Met.ofW (cc := cX11_feed) (maxL := 6) (ret := (some .int)) (by decide) rfl ?_
  intro p e s m args below meth c s₁ B hml hv
  obtain ⟨rfl, hsz, hJ, hT, hP, hK, hD0⟩ := hv
  have hx := B.exec
  have hb := B.bytes
  have hr := B.returns
  have hts := atoms_spec (ws := .code yX11_feed cX11_feed 6 (some .int) :: wP) B.pre
  have hown : s.vm.findClass RX11 = some m.cls := findClass_of_methodNamed B.named
  subst hsz
  have hD := hD0.self (sz := s.heap.size)
  generalize hAe : va_A [(h0, .inr (11, fx)), (qt, .inr (7, ft)), (qa, .inl (ca, 6000, .inl f))] s.heap.size = A at hD ⊢
  have hA : ∀ q : Nat, s.heap.size ≤ q → A q := fun q h => by rw [← hAe]; exact Or.inr h
  have hS : va_S A s.heap s.heap [] := va_S.rf
  have hl := lv_entry ([.ref h0, .int a1, .int a2, .int a3, .int a4, .int a5]) (n := 6) (Nat.le_of_ble_eq_true rfl)
  rw [lg_entry_eq]
  generalize (lg_sl ([.ref h0, .int a1, .int a2, .int a3, .int a4, .int a5]) ++ List.replicate (6 - (lg_sl ([.ref h0, .int a1, .int a2, .int a3, .int a4, .int a5])).length) Slot.unset).toArray = ls at hl ⊢
  obtain ⟨H, hHe⟩ : ∃ H, H = s.heap := ⟨_, rfl⟩
  rw [← hHe] at hP ⊢
  have hS : va_S A s.heap H [] := by rw [hHe]; exact hS
  have hl : lv_has ls 6 [(0, .ref h0), (1, .int a1), (2, .int a2), (3, .int a3), (4, .int a4), (5, .int a5)] := hl
  refine lv_aload_n hx hb dX11_feed_0 rfl (lv_at hl 0 rfl) ?_
  refine va_get (D := (dC, dI)) (ci := 11) (v := .ref qt) (C := RX11) (T := TX11) (N := 9) hx hb hts iX11 hown hK hP 0 rfl rfl 0 (by decide) (hts _ (bP 345 rfl)) (fun _ h9 => h9) (kJ_at hJ 0 rfl) dX11_feed_1 ?_
  refine va_get (D := (dC, dI)) (ci := 7) (v := .int 0) (C := RX7) (T := TX7) (N := 19) hx hb hts iX7 hown hK hP 1 rfl rfl 1 (by decide) (hts _ (bP 421 rfl)) (fun _ h9 => h9) (kJ_at hT 1 rfl) dX11_feed_4 ?_
  refine lv_bipush (v := 20) hx hb dX11_feed_7 (by decide) ?_
  refine lv_iadd hx hb dX11_feed_9 ?_
  refine k_i (v := 20) (by decide) ?_
  refine lv_sipush (v := 6000) hx hb dX11_feed_10 (by decide) ?_
  refine lv_icmp_le (tgt := 18) hx hb dX11_feed_13 (by decide) (fun _ => ?_) (fun h => absurd h (by decide))
  refine lv_aload_n hx hb dX11_feed_18 rfl (lv_at hl 0 rfl) ?_
  refine va_get (D := (dC, dI)) (ci := 11) (v := .ref qt) (C := RX11) (T := TX11) (N := 9) hx hb hts iX11 hown hK hP 0 rfl rfl 0 (by decide) (hts _ (bP 345 rfl)) (fun _ h9 => h9) (kJ_at hJ 0 rfl) dX11_feed_19 ?_
  refine lv_iload_n hx hb dX11_feed_22 rfl (lv_at hl 1 rfl) ?_
  have hPc := hP.sub (ws' := [(qt, .inr (7, ft)), (qa, .inl (ca, 6000, .inl f))]) [1, 2] rfl
  have hDc := hD.sub (ws' := [(qt, .inr (7, ft)), (qa, .inl (ca, 6000, .inl f))]) [1, 2] (by decide) rfl
  have hKc := hK.sub (tys' := [(ca, .byte)]) [0] rfl
  have hFc := va_free (wc := [(qt, .inr (7, ft)), (qa, .inl (ca, 6000, .inl f))]) hD hS hA [1, 2] rfl
  refine va_callv (va_runV (As := [.int a1]) (rest := []) ⟨hx, hb, hml, hown, hts⟩ (c_Text_append l dC dI qt H.size ft qa ca f 0 a1) (cwV 1 hts (gV (y := yX7_append) _ 426 427 428 343 423 rfl rfl rfl rfl rfl) rfl rfl rfl (by decide +kernel) ⟨Nat.le_of_ble_eq_true rfl, Nat.le_of_ble_eq_true rfl⟩) ⟨fun a U g mk q => by obtain ⟨q0, q1, qJ, qn, qP, qK, qD⟩ := q; exact ⟨q0, q1, qJ, qn, qP, va_K.moved (u := U) (U := U.calling g mk a) (Vm.Alike.refl U.vm) qK, qD⟩, va_recv hKc hPc (ci := 7) (q0 := 0) rfl rfl, fun U hU hW => ⟨rfl, by rw [hU], kJ_sub hT (by simp [nI_0]), by decide, by rw [hU]; exact hPc, va_K.moved hW.alike hKc, hDc.weaken (fun _ _ _ _ => trivial)⟩⟩ rfl rfl hl.1 rfl (lv_room (Nat.le_of_ble_eq_true rfl)) dX11_feed_23 ⟨Nat.le_of_ble_eq_true rfl, Nat.le_of_ble_eq_true rfl⟩) hS (fun q _ h => hFc q h) hFc (fun u t H1 locs ht hvm hw hB hz1 hk1 hS => ?_)
  obtain ⟨ft, f⟩ := u
  have hT : kJ 19 [(1, .int (nI 4)), (0, .ref qa)] ft := hw
  clear hw
  obtain ⟨hP1, hK1, hD1⟩ := hB
  rw [ht] at hP1
  have hK1 := va_K.moved hvm.symm hK1
  obtain ⟨hP, hD⟩ := va_join (wr := [(h0, .inr (11, fx))]) (w1 := [(qt, .inr (7, ft)), (qa, .inl (ca, 6000, .inl f))]) hP hD [1, 2] [0] rfl rfl (by decide) (by decide) hk1 hFc hP1 hD1
  have hK := (hK.sub (tys' := []) [] rfl).app hK1
  clear hPc hDc hKc hFc hP1 hK1 hD1 hk1 hz1
  generalize H1 = H at hP hS ⊢
  have hP : va_P (dC, dI) vwCl [(h0, .inr (11, fx)), (qt, .inr (7, ft)), (qa, .inl (ca, 6000, .inl f))] H := hP
  have hD : va_D A [(h0, .inr (11, fx)), (qt, .inr (7, ft)), (qa, .inl (ca, 6000, .inl f))] := hD
  have hK : va_K (dC, dI) vwCl [(ca, .byte)] s := hK
  refine lv_aload_n hx hb dX11_feed_26 rfl (lv_at hl 0 rfl) ?_
  refine va_get (D := (dC, dI)) (ci := 11) (v := .ref qt) (C := RX11) (T := TX11) (N := 9) hx hb hts iX11 hown hK hP 0 rfl rfl 0 (by decide) (hts _ (bP 345 rfl)) (fun _ h9 => h9) (kJ_at hJ 0 rfl) dX11_feed_27 ?_
  refine lv_iload_n hx hb dX11_feed_30 rfl (lv_at hl 2 rfl) ?_
  have hPc := hP.sub (ws' := [(qt, .inr (7, ft)), (qa, .inl (ca, 6000, .inl f))]) [1, 2] rfl
  have hDc := hD.sub (ws' := [(qt, .inr (7, ft)), (qa, .inl (ca, 6000, .inl f))]) [1, 2] (by decide) rfl
  have hKc := hK.sub (tys' := [(ca, .byte)]) [0] rfl
  have hFc := va_free (wc := [(qt, .inr (7, ft)), (qa, .inl (ca, 6000, .inl f))]) hD hS hA [1, 2] rfl
  refine va_callv (va_runV (As := [.int a2]) (rest := []) ⟨hx, hb, hml, hown, hts⟩ (c_Text_append l dC dI qt H.size ft qa ca f 4 a2) (cwV 1 hts (gV (y := yX7_append) _ 426 427 428 343 423 rfl rfl rfl rfl rfl) rfl rfl rfl (by decide +kernel) ⟨Nat.le_of_ble_eq_true rfl, Nat.le_of_ble_eq_true rfl⟩) ⟨fun a U g mk q => by obtain ⟨q0, q1, qJ, qn, qP, qK, qD⟩ := q; exact ⟨q0, q1, qJ, qn, qP, va_K.moved (u := U) (U := U.calling g mk a) (Vm.Alike.refl U.vm) qK, qD⟩, va_recv hKc hPc (ci := 7) (q0 := 0) rfl rfl, fun U hU hW => ⟨rfl, by rw [hU], kJ_sub hT (by simp [nI_0]), by decide, by rw [hU]; exact hPc, va_K.moved hW.alike hKc, hDc.weaken (fun _ _ _ _ => trivial)⟩⟩ rfl rfl hl.1 rfl (lv_room (Nat.le_of_ble_eq_true rfl)) dX11_feed_31 ⟨Nat.le_of_ble_eq_true rfl, Nat.le_of_ble_eq_true rfl⟩) hS (fun q _ h => hFc q h) hFc (fun u t H1 locs ht hvm hw hB hz1 hk1 hS => ?_)
  obtain ⟨ft, f⟩ := u
  have hT : kJ 19 [(1, .int (nI 8)), (0, .ref qa)] ft := hw
  clear hw
  obtain ⟨hP1, hK1, hD1⟩ := hB
  rw [ht] at hP1
  have hK1 := va_K.moved hvm.symm hK1
  obtain ⟨hP, hD⟩ := va_join (wr := [(h0, .inr (11, fx))]) (w1 := [(qt, .inr (7, ft)), (qa, .inl (ca, 6000, .inl f))]) hP hD [1, 2] [0] rfl rfl (by decide) (by decide) hk1 hFc hP1 hD1
  have hK := (hK.sub (tys' := []) [] rfl).app hK1
  clear hPc hDc hKc hFc hP1 hK1 hD1 hk1 hz1
  generalize H1 = H at hP hS ⊢
  have hP : va_P (dC, dI) vwCl [(h0, .inr (11, fx)), (qt, .inr (7, ft)), (qa, .inl (ca, 6000, .inl f))] H := hP
  have hD : va_D A [(h0, .inr (11, fx)), (qt, .inr (7, ft)), (qa, .inl (ca, 6000, .inl f))] := hD
  have hK : va_K (dC, dI) vwCl [(ca, .byte)] s := hK
  refine lv_aload_n hx hb dX11_feed_34 rfl (lv_at hl 0 rfl) ?_
  refine va_get (D := (dC, dI)) (ci := 11) (v := .ref qt) (C := RX11) (T := TX11) (N := 9) hx hb hts iX11 hown hK hP 0 rfl rfl 0 (by decide) (hts _ (bP 345 rfl)) (fun _ h9 => h9) (kJ_at hJ 0 rfl) dX11_feed_35 ?_
  refine lv_iload_n hx hb dX11_feed_38 rfl (lv_at hl 3 rfl) ?_
  have hPc := hP.sub (ws' := [(qt, .inr (7, ft)), (qa, .inl (ca, 6000, .inl f))]) [1, 2] rfl
  have hDc := hD.sub (ws' := [(qt, .inr (7, ft)), (qa, .inl (ca, 6000, .inl f))]) [1, 2] (by decide) rfl
  have hKc := hK.sub (tys' := [(ca, .byte)]) [0] rfl
  have hFc := va_free (wc := [(qt, .inr (7, ft)), (qa, .inl (ca, 6000, .inl f))]) hD hS hA [1, 2] rfl
  refine va_callv (va_runV (As := [.int a3]) (rest := []) ⟨hx, hb, hml, hown, hts⟩ (c_Text_append l dC dI qt H.size ft qa ca f 8 a3) (cwV 1 hts (gV (y := yX7_append) _ 426 427 428 343 423 rfl rfl rfl rfl rfl) rfl rfl rfl (by decide +kernel) ⟨Nat.le_of_ble_eq_true rfl, Nat.le_of_ble_eq_true rfl⟩) ⟨fun a U g mk q => by obtain ⟨q0, q1, qJ, qn, qP, qK, qD⟩ := q; exact ⟨q0, q1, qJ, qn, qP, va_K.moved (u := U) (U := U.calling g mk a) (Vm.Alike.refl U.vm) qK, qD⟩, va_recv hKc hPc (ci := 7) (q0 := 0) rfl rfl, fun U hU hW => ⟨rfl, by rw [hU], kJ_sub hT (by simp [nI_0]), by decide, by rw [hU]; exact hPc, va_K.moved hW.alike hKc, hDc.weaken (fun _ _ _ _ => trivial)⟩⟩ rfl rfl hl.1 rfl (lv_room (Nat.le_of_ble_eq_true rfl)) dX11_feed_39 ⟨Nat.le_of_ble_eq_true rfl, Nat.le_of_ble_eq_true rfl⟩) hS (fun q _ h => hFc q h) hFc (fun u t H1 locs ht hvm hw hB hz1 hk1 hS => ?_)
  obtain ⟨ft, f⟩ := u
  have hT : kJ 19 [(1, .int (nI 12)), (0, .ref qa)] ft := hw
  clear hw
  obtain ⟨hP1, hK1, hD1⟩ := hB
  rw [ht] at hP1
  have hK1 := va_K.moved hvm.symm hK1
  obtain ⟨hP, hD⟩ := va_join (wr := [(h0, .inr (11, fx))]) (w1 := [(qt, .inr (7, ft)), (qa, .inl (ca, 6000, .inl f))]) hP hD [1, 2] [0] rfl rfl (by decide) (by decide) hk1 hFc hP1 hD1
  have hK := (hK.sub (tys' := []) [] rfl).app hK1
  clear hPc hDc hKc hFc hP1 hK1 hD1 hk1 hz1
  generalize H1 = H at hP hS ⊢
  have hP : va_P (dC, dI) vwCl [(h0, .inr (11, fx)), (qt, .inr (7, ft)), (qa, .inl (ca, 6000, .inl f))] H := hP
  have hD : va_D A [(h0, .inr (11, fx)), (qt, .inr (7, ft)), (qa, .inl (ca, 6000, .inl f))] := hD
  have hK : va_K (dC, dI) vwCl [(ca, .byte)] s := hK
  refine lv_aload_n hx hb dX11_feed_42 rfl (lv_at hl 0 rfl) ?_
  refine va_get (D := (dC, dI)) (ci := 11) (v := .ref qt) (C := RX11) (T := TX11) (N := 9) hx hb hts iX11 hown hK hP 0 rfl rfl 0 (by decide) (hts _ (bP 345 rfl)) (fun _ h9 => h9) (kJ_at hJ 0 rfl) dX11_feed_43 ?_
  refine lv_iload hx hb dX11_feed_46 (lv_at hl 4 rfl) ?_
  have hPc := hP.sub (ws' := [(qt, .inr (7, ft)), (qa, .inl (ca, 6000, .inl f))]) [1, 2] rfl
  have hDc := hD.sub (ws' := [(qt, .inr (7, ft)), (qa, .inl (ca, 6000, .inl f))]) [1, 2] (by decide) rfl
  have hKc := hK.sub (tys' := [(ca, .byte)]) [0] rfl
  have hFc := va_free (wc := [(qt, .inr (7, ft)), (qa, .inl (ca, 6000, .inl f))]) hD hS hA [1, 2] rfl
  refine va_callv (va_runV (As := [.int a4]) (rest := []) ⟨hx, hb, hml, hown, hts⟩ (c_Text_append l dC dI qt H.size ft qa ca f 12 a4) (cwV 1 hts (gV (y := yX7_append) _ 426 427 428 343 423 rfl rfl rfl rfl rfl) rfl rfl rfl (by decide +kernel) ⟨Nat.le_of_ble_eq_true rfl, Nat.le_of_ble_eq_true rfl⟩) ⟨fun a U g mk q => by obtain ⟨q0, q1, qJ, qn, qP, qK, qD⟩ := q; exact ⟨q0, q1, qJ, qn, qP, va_K.moved (u := U) (U := U.calling g mk a) (Vm.Alike.refl U.vm) qK, qD⟩, va_recv hKc hPc (ci := 7) (q0 := 0) rfl rfl, fun U hU hW => ⟨rfl, by rw [hU], kJ_sub hT (by simp [nI_0]), by decide, by rw [hU]; exact hPc, va_K.moved hW.alike hKc, hDc.weaken (fun _ _ _ _ => trivial)⟩⟩ rfl rfl hl.1 rfl (lv_room (Nat.le_of_ble_eq_true rfl)) dX11_feed_48 ⟨Nat.le_of_ble_eq_true rfl, Nat.le_of_ble_eq_true rfl⟩) hS (fun q _ h => hFc q h) hFc (fun u t H1 locs ht hvm hw hB hz1 hk1 hS => ?_)
  obtain ⟨ft, f⟩ := u
  have hT : kJ 19 [(1, .int (nI 16)), (0, .ref qa)] ft := hw
  clear hw
  obtain ⟨hP1, hK1, hD1⟩ := hB
  rw [ht] at hP1
  have hK1 := va_K.moved hvm.symm hK1
  obtain ⟨hP, hD⟩ := va_join (wr := [(h0, .inr (11, fx))]) (w1 := [(qt, .inr (7, ft)), (qa, .inl (ca, 6000, .inl f))]) hP hD [1, 2] [0] rfl rfl (by decide) (by decide) hk1 hFc hP1 hD1
  have hK := (hK.sub (tys' := []) [] rfl).app hK1
  clear hPc hDc hKc hFc hP1 hK1 hD1 hk1 hz1
  generalize H1 = H at hP hS ⊢
  have hP : va_P (dC, dI) vwCl [(h0, .inr (11, fx)), (qt, .inr (7, ft)), (qa, .inl (ca, 6000, .inl f))] H := hP
  have hD : va_D A [(h0, .inr (11, fx)), (qt, .inr (7, ft)), (qa, .inl (ca, 6000, .inl f))] := hD
  have hK : va_K (dC, dI) vwCl [(ca, .byte)] s := hK
  refine lv_aload_n hx hb dX11_feed_51 rfl (lv_at hl 0 rfl) ?_
  refine va_get (D := (dC, dI)) (ci := 11) (v := .ref qt) (C := RX11) (T := TX11) (N := 9) hx hb hts iX11 hown hK hP 0 rfl rfl 0 (by decide) (hts _ (bP 345 rfl)) (fun _ h9 => h9) (kJ_at hJ 0 rfl) dX11_feed_52 ?_
  refine lv_iload hx hb dX11_feed_55 (lv_at hl 5 rfl) ?_
  have hPc := hP.sub (ws' := [(qt, .inr (7, ft)), (qa, .inl (ca, 6000, .inl f))]) [1, 2] rfl
  have hDc := hD.sub (ws' := [(qt, .inr (7, ft)), (qa, .inl (ca, 6000, .inl f))]) [1, 2] (by decide) rfl
  have hKc := hK.sub (tys' := [(ca, .byte)]) [0] rfl
  have hFc := va_free (wc := [(qt, .inr (7, ft)), (qa, .inl (ca, 6000, .inl f))]) hD hS hA [1, 2] rfl
  refine va_callv (va_runV (As := [.int a5]) (rest := []) ⟨hx, hb, hml, hown, hts⟩ (c_Text_append l dC dI qt H.size ft qa ca f 16 a5) (cwV 1 hts (gV (y := yX7_append) _ 426 427 428 343 423 rfl rfl rfl rfl rfl) rfl rfl rfl (by decide +kernel) ⟨Nat.le_of_ble_eq_true rfl, Nat.le_of_ble_eq_true rfl⟩) ⟨fun a U g mk q => by obtain ⟨q0, q1, qJ, qn, qP, qK, qD⟩ := q; exact ⟨q0, q1, qJ, qn, qP, va_K.moved (u := U) (U := U.calling g mk a) (Vm.Alike.refl U.vm) qK, qD⟩, va_recv hKc hPc (ci := 7) (q0 := 0) rfl rfl, fun U hU hW => ⟨rfl, by rw [hU], kJ_sub hT (by simp [nI_0]), by decide, by rw [hU]; exact hPc, va_K.moved hW.alike hKc, hDc.weaken (fun _ _ _ _ => trivial)⟩⟩ rfl rfl hl.1 rfl (lv_room (Nat.le_of_ble_eq_true rfl)) dX11_feed_57 ⟨Nat.le_of_ble_eq_true rfl, Nat.le_of_ble_eq_true rfl⟩) hS (fun q _ h => hFc q h) hFc (fun u t H1 locs ht hvm hw hB hz1 hk1 hS => ?_)
  obtain ⟨ft, f⟩ := u
  have hT : kJ 19 [(1, .int (nI 20)), (0, .ref qa)] ft := hw
  clear hw
  obtain ⟨hP1, hK1, hD1⟩ := hB
  rw [ht] at hP1
  have hK1 := va_K.moved hvm.symm hK1
  obtain ⟨hP, hD⟩ := va_join (wr := [(h0, .inr (11, fx))]) (w1 := [(qt, .inr (7, ft)), (qa, .inl (ca, 6000, .inl f))]) hP hD [1, 2] [0] rfl rfl (by decide) (by decide) hk1 hFc hP1 hD1
  have hK := (hK.sub (tys' := []) [] rfl).app hK1
  clear hPc hDc hKc hFc hP1 hK1 hD1 hk1 hz1
  generalize H1 = H at hP hS ⊢
  have hP : va_P (dC, dI) vwCl [(h0, .inr (11, fx)), (qt, .inr (7, ft)), (qa, .inl (ca, 6000, .inl f))] H := hP
  have hD : va_D A [(h0, .inr (11, fx)), (qt, .inr (7, ft)), (qa, .inl (ca, 6000, .inl f))] := hD
  have hK : va_K (dC, dI) vwCl [(ca, .byte)] s := hK
  refine lv_aload_n hx hb dX11_feed_60 rfl (lv_at hl 0 rfl) ?_
  refine va_get (D := (dC, dI)) (ci := 11) (v := .ref qt) (C := RX11) (T := TX11) (N := 9) hx hb hts iX11 hown hK hP 0 rfl rfl 0 (by decide) (hts _ (bP 345 rfl)) (fun _ h9 => h9) (kJ_at hJ 0 rfl) dX11_feed_61 ?_
  refine va_get (D := (dC, dI)) (ci := 7) (v := .int (nI 20)) (C := RX7) (T := TX7) (N := 19) hx hb hts iX7 hown hK hP 1 rfl rfl 1 (by decide) (hts _ (bP 421 rfl)) (fun _ h9 => h9) (kJ_at hT 0 rfl) dX11_feed_64 ?_
  exact W.iret (v := nI 20) hx hb hr (fun t ht hW => ⟨⟨nI 20, (), rfl, rfl, trivial⟩, hS.F ht⟩) hS.2.2 dX11_feed_67
end
