def RX0 : String := "MeetingHouse$Coder"
def TX0 : u_T := fun k => match k with
  | 0 => ("MeetingHouse$Coder", "code", "[I", true)
  | 1 => ("MeetingHouse$Coder", "size", "I", false)
  | 2 => ("MeetingHouse$Coder", "slots", "I", false)
  | 3 => ("MeetingHouse$Coder", "topSlots", "[I", true)
  | 4 => ("MeetingHouse$Coder", "topCells", "[I", true)
  | 5 => ("MeetingHouse$Coder", "tops", "I", false)
  | 6 => ("MeetingHouse$Coder", "tree", "LMeetingHouse$Tree;", true)
  | _ => ("MeetingHouse$Coder", "names", "LMeetingHouse$Names;", true)
def tyX0 : Nat → FieldType := fun k => match k with
  | 0 => .array .int
  | 1 => .int
  | 2 => .int
  | 3 => .array .int
  | 4 => .array .int
  | 5 => .int
  | 6 => .object "MeetingHouse$Tree"
  | _ => .object "MeetingHouse$Names"
abbrev wsX00 : List Cond := u_ws RX0 TX0 8
theorem nmX0 : ∀ a, a < 8 → ∀ b, b < 8 → a ≠ b → (TX0 a).2.1 ≠ (TX0 b).2.1 := by decide +kernel
theorem tyX0_ok : ∀ k, k < 8 → parseFieldDescriptor (TX0 k).2.2.1 = some (tyX0 k) := by decide +kernel
def RX1 : String := "MeetingHouse$Hall"
def TX1 : u_T := fun k => match k with
  | 0 => ("MeetingHouse$Hall", "procs", "[LMeetingHouse$Proc;", true)
  | 1 => ("MeetingHouse$Hall", "order", "[I", true)
  | 2 => ("MeetingHouse$Hall", "live", "I", false)
  | 3 => ("MeetingHouse$Hall", "made", "I", false)
  | 4 => ("MeetingHouse$Hall", "clock", "I", false)
  | 5 => ("MeetingHouse$Hall", "steps", "I", false)
  | 6 => ("MeetingHouse$Hall", "seed", "I", false)
  | 7 => ("MeetingHouse$Hall", "shown", "[B", true)
  | 8 => ("MeetingHouse$Hall", "shownCount", "I", false)
  | 9 => ("MeetingHouse$Hall", "keys", "[I", true)
  | 10 => ("MeetingHouse$Hall", "keyFrom", "I", false)
  | 11 => ("MeetingHouse$Hall", "keyCount", "I", false)
  | 12 => ("MeetingHouse$Hall", "message", "[I", true)
  | 13 => ("MeetingHouse$Hall", "messageSize", "I", false)
  | 14 => ("MeetingHouse$Hall", "facts", "[I", true)
  | _ => ("MeetingHouse$Hall", "meetings", "I", false)
def tyX1 : Nat → FieldType := fun k => match k with
  | 0 => .array (.object "MeetingHouse$Proc")
  | 1 => .array .int
  | 2 => .int
  | 3 => .int
  | 4 => .int
  | 5 => .int
  | 6 => .int
  | 7 => .array .byte
  | 8 => .int
  | 9 => .array .int
  | 10 => .int
  | 11 => .int
  | 12 => .array .int
  | 13 => .int
  | 14 => .array .int
  | _ => .int
abbrev wsX10 : List Cond := u_ws RX1 TX1 16
theorem nmX1 : ∀ a, a < 16 → ∀ b, b < 16 → a ≠ b → (TX1 a).2.1 ≠ (TX1 b).2.1 := by decide +kernel
theorem tyX1_ok : ∀ k, k < 16 → parseFieldDescriptor (TX1 k).2.2.1 = some (tyX1 k) := by decide +kernel
def RX2 : String := "MeetingHouse$Heap"
def TX2 : u_T := fun k => match k with
  | 0 => ("MeetingHouse$Heap", "taken", "I", false)
  | 1 => ("MeetingHouse$Heap", "cells", "[I", false)
  | 2 => ("MeetingHouse$Heap", "start", "[I", false)
  | 3 => ("MeetingHouse$Heap", "length", "[I", false)
  | 4 => ("MeetingHouse$Heap", "line", "[I", false)
  | 5 => ("MeetingHouse$Heap", "each", "[I", false)
  | 6 => ("MeetingHouse$Heap", "before", "[I", false)
  | 7 => ("MeetingHouse$Heap", "after", "[I", false)
  | 8 => ("MeetingHouse$Heap", "handles", "I", false)
  | 9 => ("MeetingHouse$Heap", "unused", "I", false)
  | 10 => ("MeetingHouse$Heap", "first", "I", false)
  | 11 => ("MeetingHouse$Heap", "last", "I", false)
  | _ => ("MeetingHouse$Heap", "top", "I", false)
def tyX2 : Nat → FieldType := fun k => match k with
  | 0 => .int
  | 1 => .array .int
  | 2 => .array .int
  | 3 => .array .int
  | 4 => .array .int
  | 5 => .array .int
  | 6 => .array .int
  | 7 => .array .int
  | 8 => .int
  | 9 => .int
  | 10 => .int
  | 11 => .int
  | _ => .int
abbrev wsX20 : List Cond := u_ws RX2 TX2 13
theorem nmX2 : ∀ a, a < 13 → ∀ b, b < 13 → a ≠ b → (TX2 a).2.1 ≠ (TX2 b).2.1 := by decide +kernel
theorem tyX2_ok : ∀ k, k < 13 → parseFieldDescriptor (TX2 k).2.2.1 = some (tyX2 k) := by decide +kernel
def RX3 : String := "MeetingHouse$Machine"
def TX3 : u_T := fun k => match k with
  | 0 => ("MeetingHouse$Machine", "begun", "Z", false)
  | 1 => ("MeetingHouse$Machine", "ended", "Z", false)
  | 2 => ("MeetingHouse$Machine", "coder", "LMeetingHouse$Coder;", true)
  | 3 => ("MeetingHouse$Machine", "text", "LMeetingHouse$Text;", true)
  | 4 => ("MeetingHouse$Machine", "heap", "LMeetingHouse$Heap;", true)
  | 5 => ("MeetingHouse$Machine", "hall", "LMeetingHouse$Hall;", true)
  | 6 => ("MeetingHouse$Machine", "rows", "[I", false)
  | 7 => ("MeetingHouse$Machine", "width", "I", false)
  | 8 => ("MeetingHouse$Machine", "stack", "[I", true)
  | 9 => ("MeetingHouse$Machine", "top", "I", false)
  | 10 => ("MeetingHouse$Machine", "current", "LMeetingHouse$Proc;", false)
  | 11 => ("MeetingHouse$Machine", "partner", "LMeetingHouse$Proc;", false)
  | 12 => ("MeetingHouse$Machine", "handing", "Z", false)
  | 13 => ("MeetingHouse$Machine", "going", "Z", false)
  | 14 => ("MeetingHouse$Machine", "mayAct", "Z", false)
  | 15 => ("MeetingHouse$Machine", "doing", "I", false)
  | 16 => ("MeetingHouse$Machine", "functions", "I", false)
  | 17 => ("MeetingHouse$Machine", "called", "I", false)
  | 18 => ("MeetingHouse$Machine", "refs", "[I", true)
  | 19 => ("MeetingHouse$Machine", "sizes", "[I", true)
  | _ => ("MeetingHouse$Machine", "scratch", "[I", true)
def tyX3 : Nat → FieldType := fun k => match k with
  | 0 => .boolean
  | 1 => .boolean
  | 2 => .object "MeetingHouse$Coder"
  | 3 => .object "MeetingHouse$Text"
  | 4 => .object "MeetingHouse$Heap"
  | 5 => .object "MeetingHouse$Hall"
  | 6 => .array .int
  | 7 => .int
  | 8 => .array .int
  | 9 => .int
  | 10 => .object "MeetingHouse$Proc"
  | 11 => .object "MeetingHouse$Proc"
  | 12 => .boolean
  | 13 => .boolean
  | 14 => .boolean
  | 15 => .int
  | 16 => .int
  | 17 => .int
  | 18 => .array .int
  | 19 => .array .int
  | _ => .array .int
abbrev wsX30 : List Cond := u_ws RX3 TX3 21
theorem nmX3 : ∀ a, a < 21 → ∀ b, b < 21 → a ≠ b → (TX3 a).2.1 ≠ (TX3 b).2.1 := by decide +kernel
theorem tyX3_ok : ∀ k, k < 21 → parseFieldDescriptor (TX3 k).2.2.1 = some (tyX3 k) := by decide +kernel
def RX4 : String := "MeetingHouse$Names"
def TX4 : u_T := fun k => match k with
  | 0 => ("MeetingHouse$Names", "kind", "[I", true)
  | 1 => ("MeetingHouse$Names", "spec", "[I", true)
  | 2 => ("MeetingHouse$Names", "number", "[I", true)
  | 3 => ("MeetingHouse$Names", "of", "[I", true)
  | 4 => ("MeetingHouse$Names", "node", "[I", true)
  | 5 => ("MeetingHouse$Names", "flags", "[I", true)
  | 6 => ("MeetingHouse$Names", "slot", "[I", true)
  | 7 => ("MeetingHouse$Names", "symbols", "I", false)
  | 8 => ("MeetingHouse$Names", "tree", "LMeetingHouse$Tree;", true)
  | 9 => ("MeetingHouse$Names", "title", "[I", true)
  | 10 => ("MeetingHouse$Names", "before", "[I", true)
  | 11 => ("MeetingHouse$Names", "latest", "[I", true)
  | 12 => ("MeetingHouse$Names", "stamps", "[I", true)
  | 13 => ("MeetingHouse$Names", "visible", "[I", true)
  | 14 => ("MeetingHouse$Names", "seen", "I", false)
  | _ => ("MeetingHouse$Names", "stamp", "I", false)
def tyX4 : Nat → FieldType := fun k => match k with
  | 0 => .array .int
  | 1 => .array .int
  | 2 => .array .int
  | 3 => .array .int
  | 4 => .array .int
  | 5 => .array .int
  | 6 => .array .int
  | 7 => .int
  | 8 => .object "MeetingHouse$Tree"
  | 9 => .array .int
  | 10 => .array .int
  | 11 => .array .int
  | 12 => .array .int
  | 13 => .array .int
  | 14 => .int
  | _ => .int
abbrev wsX40 : List Cond := u_ws RX4 TX4 16
theorem nmX4 : ∀ a, a < 16 → ∀ b, b < 16 → a ≠ b → (TX4 a).2.1 ≠ (TX4 b).2.1 := by decide +kernel
theorem tyX4_ok : ∀ k, k < 16 → parseFieldDescriptor (TX4 k).2.2.1 = some (tyX4 k) := by decide +kernel
def RX5 : String := "MeetingHouse$Proc"
def TX5 : u_T := fun k => match k with
  | 0 => ("MeetingHouse$Proc", "row", "I", true)
  | 1 => ("MeetingHouse$Proc", "number", "I", false)
  | 2 => ("MeetingHouse$Proc", "state", "I", false)
  | 3 => ("MeetingHouse$Proc", "pc", "I", false)
  | 4 => ("MeetingHouse$Proc", "line", "I", false)
  | 5 => ("MeetingHouse$Proc", "fault", "I", false)
  | 6 => ("MeetingHouse$Proc", "parent", "I", false)
  | 7 => ("MeetingHouse$Proc", "pending", "I", false)
  | 8 => ("MeetingHouse$Proc", "calls", "I", false)
  | 9 => ("MeetingHouse$Proc", "channel", "I", false)
  | 10 => ("MeetingHouse$Proc", "wake", "I", false)
  | 11 => ("MeetingHouse$Proc", "held", "[I", false)
  | 12 => ("MeetingHouse$Proc", "heldCount", "I", false)
  | 13 => ("MeetingHouse$Proc", "timed", "Z", false)
  | 14 => ("MeetingHouse$Proc", "keyed", "Z", false)
  | 15 => ("MeetingHouse$Proc", "places", "[I", true)
  | _ => ("MeetingHouse$Proc", "placeCount", "I", false)
def tyX5 : Nat → FieldType := fun k => match k with
  | 0 => .int
  | 1 => .int
  | 2 => .int
  | 3 => .int
  | 4 => .int
  | 5 => .int
  | 6 => .int
  | 7 => .int
  | 8 => .int
  | 9 => .int
  | 10 => .int
  | 11 => .array .int
  | 12 => .int
  | 13 => .boolean
  | 14 => .boolean
  | 15 => .array .int
  | _ => .int
abbrev wsX50 : List Cond := u_ws RX5 TX5 17
theorem nmX5 : ∀ a, a < 17 → ∀ b, b < 17 → a ≠ b → (TX5 a).2.1 ≠ (TX5 b).2.1 := by decide +kernel
theorem tyX5_ok : ∀ k, k < 17 → parseFieldDescriptor (TX5 k).2.2.1 = some (tyX5 k) := by decide +kernel
def RX6 : String := "MeetingHouse$Sides"
def TX6 : u_T := fun k => match k with
  | 0 => ("MeetingHouse$Sides", "tree", "LMeetingHouse$Tree;", true)
  | 1 => ("MeetingHouse$Sides", "names", "LMeetingHouse$Names;", true)
  | 2 => ("MeetingHouse$Sides", "bound", "[J", true)
  | 3 => ("MeetingHouse$Sides", "marks", "[I", true)
  | 4 => ("MeetingHouse$Sides", "mark", "I", false)
  | 5 => ("MeetingHouse$Sides", "replicators", "[I", true)
  | 6 => ("MeetingHouse$Sides", "replicatorCount", "I", false)
  | 7 => ("MeetingHouse$Sides", "values", "[I", true)
  | 8 => ("MeetingHouse$Sides", "valueCount", "I", false)
  | 9 => ("MeetingHouse$Sides", "pair", "[I", true)
  | 10 => ("MeetingHouse$Sides", "kept", "[I", true)
  | 11 => ("MeetingHouse$Sides", "ahead", "[I", true)
  | 12 => ("MeetingHouse$Sides", "rowOf", "[I", true)
  | 13 => ("MeetingHouse$Sides", "rowMark", "[I", true)
  | 14 => ("MeetingHouse$Sides", "rows", "I", false)
  | 15 => ("MeetingHouse$Sides", "parMark", "I", false)
  | _ => ("MeetingHouse$Sides", "own", "I", false)
def tyX6 : Nat → FieldType := fun k => match k with
  | 0 => .object "MeetingHouse$Tree"
  | 1 => .object "MeetingHouse$Names"
  | 2 => .array .long
  | 3 => .array .int
  | 4 => .int
  | 5 => .array .int
  | 6 => .int
  | 7 => .array .int
  | 8 => .int
  | 9 => .array .int
  | 10 => .array .int
  | 11 => .array .int
  | 12 => .array .int
  | 13 => .array .int
  | 14 => .int
  | 15 => .int
  | _ => .int
abbrev wsX60 : List Cond := u_ws RX6 TX6 17
theorem nmX6 : ∀ a, a < 17 → ∀ b, b < 17 → a ≠ b → (TX6 a).2.1 ≠ (TX6 b).2.1 := by decide +kernel
theorem tyX6_ok : ∀ k, k < 17 → parseFieldDescriptor (TX6 k).2.2.1 = some (tyX6 k) := by decide +kernel
def RX7 : String := "MeetingHouse$Text"
def TX7 : u_T := fun k => match k with
  | 0 => ("MeetingHouse$Text", "tape", "[B", true)
  | 1 => ("MeetingHouse$Text", "length", "I", false)
  | 2 => ("MeetingHouse$Text", "kind", "[I", true)
  | 3 => ("MeetingHouse$Text", "value", "[I", true)
  | 4 => ("MeetingHouse$Text", "line", "[I", true)
  | 5 => ("MeetingHouse$Text", "blanks", "[I", true)
  | 6 => ("MeetingHouse$Text", "tokens", "I", false)
  | 7 => ("MeetingHouse$Text", "lines", "I", false)
  | 8 => ("MeetingHouse$Text", "signs", "[I", true)
  | 9 => ("MeetingHouse$Text", "signsUsed", "I", false)
  | 10 => ("MeetingHouse$Text", "put", "I", false)
  | 11 => ("MeetingHouse$Text", "at", "I", false)
  | 12 => ("MeetingHouse$Text", "row", "I", false)
  | 13 => ("MeetingHouse$Text", "meant", "I", false)
  | 14 => ("MeetingHouse$Text", "letters", "[B", true)
  | 15 => ("MeetingHouse$Text", "nameFrom", "[I", true)
  | 16 => ("MeetingHouse$Text", "nameNext", "[I", true)
  | 17 => ("MeetingHouse$Text", "bucket", "[I", true)
  | _ => ("MeetingHouse$Text", "names", "I", false)
def tyX7 : Nat → FieldType := fun k => match k with
  | 0 => .array .byte
  | 1 => .int
  | 2 => .array .int
  | 3 => .array .int
  | 4 => .array .int
  | 5 => .array .int
  | 6 => .int
  | 7 => .int
  | 8 => .array .int
  | 9 => .int
  | 10 => .int
  | 11 => .int
  | 12 => .int
  | 13 => .int
  | 14 => .array .byte
  | 15 => .array .int
  | 16 => .array .int
  | 17 => .array .int
  | _ => .int
abbrev wsX70 : List Cond := u_ws RX7 TX7 19
theorem nmX7 : ∀ a, a < 19 → ∀ b, b < 19 → a ≠ b → (TX7 a).2.1 ≠ (TX7 b).2.1 := by decide +kernel
theorem tyX7_ok : ∀ k, k < 19 → parseFieldDescriptor (TX7 k).2.2.1 = some (tyX7 k) := by decide +kernel
def RX8 : String := "MeetingHouse$Tree"
def TX8 : u_T := fun k => match k with
  | 0 => ("MeetingHouse$Tree", "kind", "[I", true)
  | 1 => ("MeetingHouse$Tree", "line", "[I", true)
  | 2 => ("MeetingHouse$Tree", "a", "[I", true)
  | 3 => ("MeetingHouse$Tree", "b", "[I", true)
  | 4 => ("MeetingHouse$Tree", "c", "[I", true)
  | 5 => ("MeetingHouse$Tree", "next", "[I", true)
  | 6 => ("MeetingHouse$Tree", "val", "[I", true)
  | 7 => ("MeetingHouse$Tree", "sym", "[I", true)
  | 8 => ("MeetingHouse$Tree", "type", "[I", true)
  | 9 => ("MeetingHouse$Tree", "worth", "[I", true)
  | 10 => ("MeetingHouse$Tree", "root", "I", false)
  | 11 => ("MeetingHouse$Tree", "fault", "I", false)
  | 12 => ("MeetingHouse$Tree", "text", "LMeetingHouse$Text;", true)
  | 13 => ("MeetingHouse$Tree", "nodes", "I", false)
  | 14 => ("MeetingHouse$Tree", "at", "I", false)
  | 15 => ("MeetingHouse$Tree", "open", "I", false)
  | _ => ("MeetingHouse$Tree", "kindNode", "I", false)
def tyX8 : Nat → FieldType := fun k => match k with
  | 0 => .array .int
  | 1 => .array .int
  | 2 => .array .int
  | 3 => .array .int
  | 4 => .array .int
  | 5 => .array .int
  | 6 => .array .int
  | 7 => .array .int
  | 8 => .array .int
  | 9 => .array .int
  | 10 => .int
  | 11 => .int
  | 12 => .object "MeetingHouse$Text"
  | 13 => .int
  | 14 => .int
  | 15 => .int
  | _ => .int
abbrev wsX80 : List Cond := u_ws RX8 TX8 17
theorem nmX8 : ∀ a, a < 17 → ∀ b, b < 17 → a ≠ b → (TX8 a).2.1 ≠ (TX8 b).2.1 := by decide +kernel
theorem tyX8_ok : ∀ k, k < 17 → parseFieldDescriptor (TX8 k).2.2.1 = some (tyX8 k) := by decide +kernel
def RX9 : String := "MeetingHouse$Types"
def TX9 : u_T := fun k => match k with
  | 0 => ("MeetingHouse$Types", "told", "I", false)
  | 1 => ("MeetingHouse$Types", "tree", "LMeetingHouse$Tree;", true)
  | 2 => ("MeetingHouse$Types", "names", "LMeetingHouse$Names;", true)
  | 3 => ("MeetingHouse$Types", "marks", "[I", true)
  | 4 => ("MeetingHouse$Types", "mark", "I", false)
  | _ => ("MeetingHouse$Types", "cells", "I", false)
def tyX9 : Nat → FieldType := fun k => match k with
  | 0 => .int
  | 1 => .object "MeetingHouse$Tree"
  | 2 => .object "MeetingHouse$Names"
  | 3 => .array .int
  | 4 => .int
  | _ => .int
abbrev wsX90 : List Cond := u_ws RX9 TX9 6
theorem nmX9 : ∀ a, a < 6 → ∀ b, b < 6 → a ≠ b → (TX9 a).2.1 ≠ (TX9 b).2.1 := by decide +kernel
theorem tyX9_ok : ∀ k, k < 6 → parseFieldDescriptor (TX9 k).2.2.1 = some (tyX9 k) := by decide +kernel
def RX10 : String := "MeetingHouse$Uses"
def TX10 : u_T := fun k => match k with
  | 0 => ("MeetingHouse$Uses", "line", "[I", true)
  | 1 => ("MeetingHouse$Uses", "root", "[I", true)
  | 2 => ("MeetingHouse$Uses", "index", "[I", true)
  | 3 => ("MeetingHouse$Uses", "flags", "[I", true)
  | 4 => ("MeetingHouse$Uses", "outside", "[I", true)
  | 5 => ("MeetingHouse$Uses", "outsideFrom", "[I", true)
  | 6 => ("MeetingHouse$Uses", "outsideTo", "[I", true)
  | 7 => ("MeetingHouse$Uses", "pars", "[I", true)
  | 8 => ("MeetingHouse$Uses", "parCount", "I", false)
  | 9 => ("MeetingHouse$Uses", "tree", "LMeetingHouse$Tree;", true)
  | 10 => ("MeetingHouse$Uses", "names", "LMeetingHouse$Names;", true)
  | 11 => ("MeetingHouse$Uses", "sides", "LMeetingHouse$Sides;", true)
  | 12 => ("MeetingHouse$Uses", "gathered", "[I", true)
  | 13 => ("MeetingHouse$Uses", "touched", "[I", true)
  | 14 => ("MeetingHouse$Uses", "uses", "I", false)
  | 15 => ("MeetingHouse$Uses", "outsides", "I", false)
  | 16 => ("MeetingHouse$Uses", "functionFrom", "I", false)
  | 17 => ("MeetingHouse$Uses", "acting", "Z", false)
  | _ => ("MeetingHouse$Uses", "weight", "J", false)
def tyX10 : Nat → FieldType := fun k => match k with
  | 0 => .array .int
  | 1 => .array .int
  | 2 => .array .int
  | 3 => .array .int
  | 4 => .array .int
  | 5 => .array .int
  | 6 => .array .int
  | 7 => .array .int
  | 8 => .int
  | 9 => .object "MeetingHouse$Tree"
  | 10 => .object "MeetingHouse$Names"
  | 11 => .object "MeetingHouse$Sides"
  | 12 => .array .int
  | 13 => .array .int
  | 14 => .int
  | 15 => .int
  | 16 => .int
  | 17 => .boolean
  | _ => .long
abbrev wsX100 : List Cond := u_ws RX10 TX10 19
theorem nmX10 : ∀ a, a < 19 → ∀ b, b < 19 → a ≠ b → (TX10 a).2.1 ≠ (TX10 b).2.1 := by decide +kernel
theorem tyX10_ok : ∀ k, k < 19 → parseFieldDescriptor (TX10 k).2.2.1 = some (tyX10 k) := by decide +kernel
def RX11 : String := "MeetingHouse"
def TX11 : u_T := fun k => match k with
  | 0 => ("MeetingHouse", "text", "LMeetingHouse$Text;", true)
  | 1 => ("MeetingHouse", "tree", "LMeetingHouse$Tree;", true)
  | 2 => ("MeetingHouse", "names", "LMeetingHouse$Names;", true)
  | 3 => ("MeetingHouse", "types", "LMeetingHouse$Types;", true)
  | 4 => ("MeetingHouse", "sides", "LMeetingHouse$Sides;", true)
  | 5 => ("MeetingHouse", "uses", "LMeetingHouse$Uses;", true)
  | 6 => ("MeetingHouse", "coder", "LMeetingHouse$Coder;", true)
  | 7 => ("MeetingHouse", "machine", "LMeetingHouse$Machine;", true)
  | _ => ("MeetingHouse", "hasProgram", "Z", false)
def tyX11 : Nat → FieldType := fun k => match k with
  | 0 => .object "MeetingHouse$Text"
  | 1 => .object "MeetingHouse$Tree"
  | 2 => .object "MeetingHouse$Names"
  | 3 => .object "MeetingHouse$Types"
  | 4 => .object "MeetingHouse$Sides"
  | 5 => .object "MeetingHouse$Uses"
  | 6 => .object "MeetingHouse$Coder"
  | 7 => .object "MeetingHouse$Machine"
  | _ => .boolean
abbrev wsX110 : List Cond := u_ws RX11 TX11 9
theorem nmX11 : ∀ a, a < 9 → ∀ b, b < 9 → a ≠ b → (TX11 a).2.1 ≠ (TX11 b).2.1 := by decide +kernel
theorem tyX11_ok : ∀ k, k < 9 → parseFieldDescriptor (TX11 k).2.2.1 = some (tyX11 k) := by decide +kernel
def RX12 : String := "MeetingHouseModel$Halt"
def TX12 : u_T := fun k => match k with
  | 0 => ("java/lang/Throwable", "cause", "Ljava/lang/Throwable;", false)
  | 1 => ("java/lang/Throwable", "stackTrace", "[Ljava/lang/StackTraceElement;", false)
  | 2 => ("java/lang/Throwable", "suppressedExceptions", "Ljava/util/List;", false)
  | 3 => ("java/lang/Throwable", "detailMessage", "Ljava/lang/String;", false)
  | 4 => ("java/lang/Throwable", "backtrace", "Ljava/lang/Object;", false)
  | _ => ("java/lang/Throwable", "depth", "I", false)
def tyX12 : Nat → FieldType := fun k => match k with
  | 0 => .object "java/lang/Throwable"
  | 1 => .array (.object "java/lang/StackTraceElement")
  | 2 => .object "java/util/List"
  | 3 => .object "java/lang/String"
  | 4 => .object "java/lang/Object"
  | _ => .int
abbrev wsX120 : List Cond := u_ws RX12 TX12 6
theorem nmX12 : ∀ a, a < 6 → ∀ b, b < 6 → a ≠ b → (TX12 a).2.1 ≠ (TX12 b).2.1 := by decide +kernel
theorem tyX12_ok : ∀ k, k < 6 → parseFieldDescriptor (TX12 k).2.2.1 = some (tyX12 k) := by decide +kernel
abbrev cX12_init : ByteArray := prog_15_method_1_code
def yX12_init : MethodName := ⟨RX12, "<init>", "()V"⟩
def RX13 : String := "MeetingHouseModel"
def TX13 : u_T := fun k => match k with
  | 0 => ("MeetingHouseModel", "halt", "LMeetingHouseModel$Halt;", true)
  | 1 => ("MeetingHouseModel", "thrown", "I", false)
  | 2 => ("MeetingHouseModel", "tape", "[I", true)
  | 3 => ("MeetingHouseModel", "taped", "I", false)
  | 4 => ("MeetingHouseModel", "words", "[Ljava/lang/String;", true)
  | 5 => ("MeetingHouseModel", "signs", "[Ljava/lang/String;", true)
  | 6 => ("MeetingHouseModel", "tokens", "I", false)
  | 7 => ("MeetingHouseModel", "tKind", "[I", true)
  | 8 => ("MeetingHouseModel", "tValue", "[I", true)
  | 9 => ("MeetingHouseModel", "tLine", "[I", true)
  | 10 => ("MeetingHouseModel", "tBlanks", "[I", true)
  | 11 => ("MeetingHouseModel", "realTokens", "I", false)
  | 12 => ("MeetingHouseModel", "realLines", "I", false)
  | 13 => ("MeetingHouseModel", "names", "I", false)
  | 14 => ("MeetingHouseModel", "nameAt", "[I", true)
  | 15 => ("MeetingHouseModel", "nameSize", "[I", true)
  | 16 => ("MeetingHouseModel", "nameText", "[I", true)
  | 17 => ("MeetingHouseModel", "nameEnd", "I", false)
  | 18 => ("MeetingHouseModel", "strings", "I", false)
  | 19 => ("MeetingHouseModel", "stringAt", "[I", true)
  | 20 => ("MeetingHouseModel", "stringSize", "[I", true)
  | 21 => ("MeetingHouseModel", "stringText", "[I", true)
  | 22 => ("MeetingHouseModel", "stringEnd", "I", false)
  | 23 => ("MeetingHouseModel", "at", "I", false)
  | 24 => ("MeetingHouseModel", "value", "I", false)
  | 25 => ("MeetingHouseModel", "nodes", "I", false)
  | 26 => ("MeetingHouseModel", "kind", "[I", true)
  | 27 => ("MeetingHouseModel", "line", "[I", true)
  | 28 => ("MeetingHouseModel", "a", "[I", true)
  | 29 => ("MeetingHouseModel", "b", "[I", true)
  | 30 => ("MeetingHouseModel", "c", "[I", true)
  | 31 => ("MeetingHouseModel", "sym", "[I", true)
  | 32 => ("MeetingHouseModel", "next", "[I", true)
  | 33 => ("MeetingHouseModel", "type", "[I", true)
  | 34 => ("MeetingHouseModel", "spec", "[I", true)
  | 35 => ("MeetingHouseModel", "t", "I", false)
  | 36 => ("MeetingHouseModel", "fault", "I", false)
  | 37 => ("MeetingHouseModel", "faultLine", "I", false)
  | 38 => ("MeetingHouseModel", "open", "I", false)
  | 39 => ("MeetingHouseModel", "first", "I", false)
  | 40 => ("MeetingHouseModel", "last", "I", false)
  | 41 => ("MeetingHouseModel", "result", "[I", true)
  | 42 => ("MeetingHouseModel", "inner", "[I", true)
  | 43 => ("MeetingHouseModel", "program", "I", false)
  | 44 => ("MeetingHouseModel", "symbols", "I", false)
  | 45 => ("MeetingHouseModel", "sName", "[I", true)
  | 46 => ("MeetingHouseModel", "sKind", "[I", true)
  | 47 => ("MeetingHouseModel", "sType", "[I", true)
  | 48 => ("MeetingHouseModel", "sMany", "[I", true)
  | 49 => ("MeetingHouseModel", "sNode", "[I", true)
  | 50 => ("MeetingHouseModel", "sLine", "[I", true)
  | 51 => ("MeetingHouseModel", "sUnit", "[I", true)
  | 52 => ("MeetingHouseModel", "sSlot", "[I", true)
  | 53 => ("MeetingHouseModel", "sFormal", "[Z", true)
  | 54 => ("MeetingHouseModel", "sOf", "[I", true)
  | 55 => ("MeetingHouseModel", "sE", "[I", true)
  | 56 => ("MeetingHouseModel", "known", "I", false)
  | 57 => ("MeetingHouseModel", "knownSymbol", "[I", true)
  | 58 => ("MeetingHouseModel", "declared", "I", false)
  | 59 => ("MeetingHouseModel", "units", "I", false)
  | 60 => ("MeetingHouseModel", "unitAround", "[I", true)
  | 61 => ("MeetingHouseModel", "unitSlots", "[I", true)
  | 62 => ("MeetingHouseModel", "unit", "I", false)
  | 63 => ("MeetingHouseModel", "unitOf", "[I", true)
  | 64 => ("MeetingHouseModel", "worst", "I", false)
  | 65 => ("MeetingHouseModel", "worstLine", "I", false)
  | 66 => ("MeetingHouseModel", "symbolsFrom", "[I", true)
  | 67 => ("MeetingHouseModel", "ownFrom", "[I", true)
  | 68 => ("MeetingHouseModel", "sConstant", "[Z", true)
  | 69 => ("MeetingHouseModel", "sValue", "[I", true)
  | 70 => ("MeetingHouseModel", "tried", "[I", true)
  | 71 => ("MeetingHouseModel", "isTried", "[Z", true)
  | 72 => ("MeetingHouseModel", "failed", "I", false)
  | 73 => ("MeetingHouseModel", "many", "I", false)
  | 74 => ("MeetingHouseModel", "staticCells", "I", false)
  | 75 => ("MeetingHouseModel", "told", "I", false)
  | 76 => ("MeetingHouseModel", "weightOf", "[J", true)
  | 77 => ("MeetingHouseModel", "baseOf", "[I", true)
  | 78 => ("MeetingHouseModel", "countOf", "[I", true)
  | 79 => ("MeetingHouseModel", "weight", "J", false)
  | 80 => ("MeetingHouseModel", "effects", "I", false)
  | 81 => ("MeetingHouseModel", "effectOf", "[I", false)
  | 82 => ("MeetingHouseModel", "effectHow", "[I", false)
  | 83 => ("MeetingHouseModel", "effectFrom", "[I", true)
  | 84 => ("MeetingHouseModel", "effectTo", "[I", true)
  | 85 => ("MeetingHouseModel", "hasTalk", "[Z", true)
  | 86 => ("MeetingHouseModel", "gathered", "I", false)
  | 87 => ("MeetingHouseModel", "outside", "I", false)
  | 88 => ("MeetingHouseModel", "talks", "Z", false)
  | 89 => ("MeetingHouseModel", "placeSymbol", "I", false)
  | 90 => ("MeetingHouseModel", "placeIndex", "I", false)
  | 91 => ("MeetingHouseModel", "placeAll", "Z", false)
  | 92 => ("MeetingHouseModel", "placeBits", "[J", true)
  | 93 => ("MeetingHouseModel", "free", "I", false)
  | 94 => ("MeetingHouseModel", "freeSymbol", "[I", true)
  | 95 => ("MeetingHouseModel", "isFixed", "[Z", true)
  | 96 => ("MeetingHouseModel", "keptAt", "[I", true)
  | 97 => ("MeetingHouseModel", "keptBits", "[J", true)
  | 98 => ("MeetingHouseModel", "kept", "I", false)
  | 99 => ("MeetingHouseModel", "formalsTo", "I", false)
  | 100 => ("MeetingHouseModel", "within", "I", false)
  | 101 => ("MeetingHouseModel", "argSymbol", "[I", true)
  | 102 => ("MeetingHouseModel", "argAll", "[Z", true)
  | 103 => ("MeetingHouseModel", "argBits", "[J", true)
  | 104 => ("MeetingHouseModel", "touched", "I", false)
  | 105 => ("MeetingHouseModel", "touchedSymbol", "[I", true)
  | 106 => ("MeetingHouseModel", "aheadAll", "[Z", true)
  | 107 => ("MeetingHouseModel", "aheadBits", "[J", true)
  | 108 => ("MeetingHouseModel", "nowAll", "[Z", true)
  | 109 => ("MeetingHouseModel", "nowBits", "[J", true)
  | 110 => ("MeetingHouseModel", "there", "Z", false)
  | 111 => ("MeetingHouseModel", "heap", "[I", false)
  | 112 => ("MeetingHouseModel", "changedBy", "[I", false)
  | 113 => ("MeetingHouseModel", "usedBy", "[I", false)
  | 114 => ("MeetingHouseModel", "heapEnd", "I", false)
  | 115 => ("MeetingHouseModel", "pieces", "I", false)
  | 116 => ("MeetingHouseModel", "pieceAt", "[I", false)
  | 117 => ("MeetingHouseModel", "pieceSize", "[I", false)
  | 118 => ("MeetingHouseModel", "pages", "[[I", true)
  | 119 => ("MeetingHouseModel", "roomEnd", "I", false)
  | 120 => ("MeetingHouseModel", "gaps", "I", false)
  | 121 => ("MeetingHouseModel", "gapAt", "[I", false)
  | 122 => ("MeetingHouseModel", "gapSize", "[I", false)
  | 123 => ("MeetingHouseModel", "begun", "Z", false)
  | 124 => ("MeetingHouseModel", "ended", "Z", false)
  | 125 => ("MeetingHouseModel", "behindDeclarations", "Z", false)
  | 126 => ("MeetingHouseModel", "seed", "I", false)
  | 127 => ("MeetingHouseModel", "steps", "I", false)
  | 128 => ("MeetingHouseModel", "clock", "I", false)
  | 129 => ("MeetingHouseModel", "made", "I", false)
  | 130 => ("MeetingHouseModel", "meetings", "I", false)
  | 131 => ("MeetingHouseModel", "openCells", "I", false)
  | 132 => ("MeetingHouseModel", "clashes", "I", false)
  | 133 => ("MeetingHouseModel", "calls", "I", false)
  | 134 => ("MeetingHouseModel", "depth", "I", false)
  | 135 => ("MeetingHouseModel", "outSize", "I", false)
  | 136 => ("MeetingHouseModel", "out", "[I", true)
  | 137 => ("MeetingHouseModel", "inSize", "I", false)
  | 138 => ("MeetingHouseModel", "input", "[I", true)
  | 139 => ("MeetingHouseModel", "screenAt", "I", false)
  | 140 => ("MeetingHouseModel", "keyboardAt", "I", false)
  | 141 => ("MeetingHouseModel", "stringBase", "I", false)
  | 142 => ("MeetingHouseModel", "meeting", "[I", true)
  | 143 => ("MeetingHouseModel", "there1", "I", false)
  | 144 => ("MeetingHouseModel", "order", "[I", true)
  | 145 => ("MeetingHouseModel", "isSlot", "[Z", true)
  | 146 => ("MeetingHouseModel", "pNumber", "[I", true)
  | 147 => ("MeetingHouseModel", "pState", "[I", true)
  | 148 => ("MeetingHouseModel", "pParent", "[I", true)
  | 149 => ("MeetingHouseModel", "pFrame", "[I", true)
  | 150 => ("MeetingHouseModel", "pOwn", "[I", true)
  | 151 => ("MeetingHouseModel", "pTop", "[I", true)
  | 152 => ("MeetingHouseModel", "pLeft", "[I", true)
  | 153 => ("MeetingHouseModel", "pLine", "[I", true)
  | 154 => ("MeetingHouseModel", "pFault", "[I", true)
  | 155 => ("MeetingHouseModel", "pChannel", "[I", true)
  | 156 => ("MeetingHouseModel", "pTime", "[I", true)
  | 157 => ("MeetingHouseModel", "pBlock", "[I", true)
  | 158 => ("MeetingHouseModel", "pSize", "[I", true)
  | 159 => ("MeetingHouseModel", "pDone", "[Z", true)
  | 160 => ("MeetingHouseModel", "pCalls", "[I", true)
  | 161 => ("MeetingHouseModel", "me", "I", false)
  | 162 => ("MeetingHouseModel", "frame", "I", false)
  | 163 => ("MeetingHouseModel", "top", "I", false)
  | 164 => ("MeetingHouseModel", "here", "I", false)
  | 165 => ("MeetingHouseModel", "sheets", "[[I", true)
  | 166 => ("MeetingHouseModel", "kEnd", "I", false)
  | 167 => ("MeetingHouseModel", "kFree", "I", false)
  | 168 => ("MeetingHouseModel", "arrayAt", "I", false)
  | 169 => ("MeetingHouseModel", "arraySize", "I", false)
  | 170 => ("MeetingHouseModel", "tables", "I", false)
  | 171 => ("MeetingHouseModel", "tableAt", "[I", false)
  | 172 => ("MeetingHouseModel", "tableSize", "[I", false)
  | 173 => ("MeetingHouseModel", "isOuter", "Z", false)
  | 174 => ("MeetingHouseModel", "vTop", "I", false)
  | 175 => ("MeetingHouseModel", "vAt", "[I", false)
  | 176 => ("MeetingHouseModel", "vSize", "[I", false)
  | 177 => ("MeetingHouseModel", "second", "I", false)
  | 178 => ("MeetingHouseModel", "secondPops", "Z", false)
  | _ => ("MeetingHouseModel", "outer", "I", false)
def tyX13 : Nat → FieldType := fun k => match k with
  | 0 => .object "MeetingHouseModel$Halt"
  | 1 => .int
  | 2 => .array .int
  | 3 => .int
  | 4 => .array (.object "java/lang/String")
  | 5 => .array (.object "java/lang/String")
  | 6 => .int
  | 7 => .array .int
  | 8 => .array .int
  | 9 => .array .int
  | 10 => .array .int
  | 11 => .int
  | 12 => .int
  | 13 => .int
  | 14 => .array .int
  | 15 => .array .int
  | 16 => .array .int
  | 17 => .int
  | 18 => .int
  | 19 => .array .int
  | 20 => .array .int
  | 21 => .array .int
  | 22 => .int
  | 23 => .int
  | 24 => .int
  | 25 => .int
  | 26 => .array .int
  | 27 => .array .int
  | 28 => .array .int
  | 29 => .array .int
  | 30 => .array .int
  | 31 => .array .int
  | 32 => .array .int
  | 33 => .array .int
  | 34 => .array .int
  | 35 => .int
  | 36 => .int
  | 37 => .int
  | 38 => .int
  | 39 => .int
  | 40 => .int
  | 41 => .array .int
  | 42 => .array .int
  | 43 => .int
  | 44 => .int
  | 45 => .array .int
  | 46 => .array .int
  | 47 => .array .int
  | 48 => .array .int
  | 49 => .array .int
  | 50 => .array .int
  | 51 => .array .int
  | 52 => .array .int
  | 53 => .array .boolean
  | 54 => .array .int
  | 55 => .array .int
  | 56 => .int
  | 57 => .array .int
  | 58 => .int
  | 59 => .int
  | 60 => .array .int
  | 61 => .array .int
  | 62 => .int
  | 63 => .array .int
  | 64 => .int
  | 65 => .int
  | 66 => .array .int
  | 67 => .array .int
  | 68 => .array .boolean
  | 69 => .array .int
  | 70 => .array .int
  | 71 => .array .boolean
  | 72 => .int
  | 73 => .int
  | 74 => .int
  | 75 => .int
  | 76 => .array .long
  | 77 => .array .int
  | 78 => .array .int
  | 79 => .long
  | 80 => .int
  | 81 => .array .int
  | 82 => .array .int
  | 83 => .array .int
  | 84 => .array .int
  | 85 => .array .boolean
  | 86 => .int
  | 87 => .int
  | 88 => .boolean
  | 89 => .int
  | 90 => .int
  | 91 => .boolean
  | 92 => .array .long
  | 93 => .int
  | 94 => .array .int
  | 95 => .array .boolean
  | 96 => .array .int
  | 97 => .array .long
  | 98 => .int
  | 99 => .int
  | 100 => .int
  | 101 => .array .int
  | 102 => .array .boolean
  | 103 => .array .long
  | 104 => .int
  | 105 => .array .int
  | 106 => .array .boolean
  | 107 => .array .long
  | 108 => .array .boolean
  | 109 => .array .long
  | 110 => .boolean
  | 111 => .array .int
  | 112 => .array .int
  | 113 => .array .int
  | 114 => .int
  | 115 => .int
  | 116 => .array .int
  | 117 => .array .int
  | 118 => .array (.array .int)
  | 119 => .int
  | 120 => .int
  | 121 => .array .int
  | 122 => .array .int
  | 123 => .boolean
  | 124 => .boolean
  | 125 => .boolean
  | 126 => .int
  | 127 => .int
  | 128 => .int
  | 129 => .int
  | 130 => .int
  | 131 => .int
  | 132 => .int
  | 133 => .int
  | 134 => .int
  | 135 => .int
  | 136 => .array .int
  | 137 => .int
  | 138 => .array .int
  | 139 => .int
  | 140 => .int
  | 141 => .int
  | 142 => .array .int
  | 143 => .int
  | 144 => .array .int
  | 145 => .array .boolean
  | 146 => .array .int
  | 147 => .array .int
  | 148 => .array .int
  | 149 => .array .int
  | 150 => .array .int
  | 151 => .array .int
  | 152 => .array .int
  | 153 => .array .int
  | 154 => .array .int
  | 155 => .array .int
  | 156 => .array .int
  | 157 => .array .int
  | 158 => .array .int
  | 159 => .array .boolean
  | 160 => .array .int
  | 161 => .int
  | 162 => .int
  | 163 => .int
  | 164 => .int
  | 165 => .array (.array .int)
  | 166 => .int
  | 167 => .int
  | 168 => .int
  | 169 => .int
  | 170 => .int
  | 171 => .array .int
  | 172 => .array .int
  | 173 => .boolean
  | 174 => .int
  | 175 => .array .int
  | 176 => .array .int
  | 177 => .int
  | 178 => .boolean
  | _ => .int
abbrev wsX130 : List Cond := u_ws RX13 TX13 180
theorem nmX13 : ∀ a, a < 180 → ∀ b, b < 180 → a ≠ b → (TX13 a).2.1 ≠ (TX13 b).2.1 := by decide +kernel
theorem tyX13_ok : ∀ k, k < 180 → parseFieldDescriptor (TX13 k).2.2.1 = some (tyX13 k) := by decide +kernel
abbrev cX13_init : ByteArray := prog_14_method_1_code
def yX13_init : MethodName := ⟨RX13, "<init>", "()V"⟩
def RJ0 : String := "java/lang/String"
theorem dX12_init_0 : decode cX12_init 0 = .ok (.aload_n 0, 1) := by decide +kernel
theorem dX12_init_1 : decode cX12_init 1 = .ok (.ldc 1, 2) := by decide +kernel
theorem dX12_init_3 : decode cX12_init 3 = .ok (.aconst_null, 1) := by decide +kernel
theorem dX12_init_4 : decode cX12_init 4 = .ok (.iconst 0, 1) := by decide +kernel
theorem dX12_init_5 : decode cX12_init 5 = .ok (.iconst 0, 1) := by decide +kernel
theorem dX12_init_6 : decode cX12_init 6 = .ok (.invokespecial 3, 3) := by decide +kernel
theorem dX12_init_9 : decode cX12_init 9 = .ok (.return_, 1) := by decide +kernel
abbrev vwCl : List vw_C := [(RX0, TX0, 8), (RX1, TX1, 16), (RX2, TX2, 13), (RX3, TX3, 21), (RX4, TX4, 16), (RX5, TX5, 17), (RX6, TX6, 17), (RX7, TX7, 19), (RX8, TX8, 17), (RX9, TX9, 6), (RX10, TX10, 19), (RX11, TX11, 9), (RX12, TX12, 6), (RX13, TX13, 180)]
def RTh : String := "java/lang/Throwable"
def REx : String := "java/lang/Exception"
def RRt : String := "java/lang/RuntimeException"
abbrev cT4 : ByteArray := prog_27_method_5_code
abbrev cE4 : ByteArray := prog_18_method_5_code
abbrev cR4 : ByteArray := prog_22_method_5_code
def yT4 : MethodName := ⟨RTh, "<init>", "(Ljava/lang/String;Ljava/lang/Throwable;ZZ)V"⟩
def yE4 : MethodName := ⟨REx, "<init>", "(Ljava/lang/String;Ljava/lang/Throwable;ZZ)V"⟩
def yR4 : MethodName := ⟨RRt, "<init>", "(Ljava/lang/String;Ljava/lang/Throwable;ZZ)V"⟩
theorem dT4_0 : decode cT4 0 = .ok (.aload_n 0, 1) := by decide +kernel
theorem dT4_1 : decode cT4 1 = .ok (.invokespecial 1, 3) := by decide +kernel
theorem dT4_4 : decode cT4 4 = .ok (.aload_n 0, 1) := by decide +kernel
theorem dT4_5 : decode cT4 5 = .ok (.aload_n 0, 1) := by decide +kernel
theorem dT4_6 : decode cT4 6 = .ok (.putfield 7, 3) := by decide +kernel
theorem dT4_9 : decode cT4 9 = .ok (.aload_n 0, 1) := by decide +kernel
theorem dT4_10 : decode cT4 10 = .ok (.getstatic 13, 3) := by decide +kernel
theorem dT4_13 : decode cT4 13 = .ok (.putfield 17, 3) := by decide +kernel
theorem dT4_16 : decode cT4 16 = .ok (.aload_n 0, 1) := by decide +kernel
theorem dT4_17 : decode cT4 17 = .ok (.getstatic 20, 3) := by decide +kernel
theorem dT4_20 : decode cT4 20 = .ok (.putfield 24, 3) := by decide +kernel
theorem dT4_23 : decode cT4 23 = .ok (.iload 4, 2) := by decide +kernel
theorem dT4_25 : decode cT4 25 = .ok (.ifCond .eq 11, 3) := by decide +kernel
theorem dT4_28 : decode cT4 28 = .ok (.aload_n 0, 1) := by decide +kernel
theorem dT4_29 : decode cT4 29 = .ok (.invokevirtual 27, 3) := by decide +kernel
theorem dT4_32 : decode cT4 32 = .ok (.pop, 1) := by decide +kernel
theorem dT4_33 : decode cT4 33 = .ok (.goto 8, 3) := by decide +kernel
theorem dT4_36 : decode cT4 36 = .ok (.aload_n 0, 1) := by decide +kernel
theorem dT4_37 : decode cT4 37 = .ok (.aconst_null, 1) := by decide +kernel
theorem dT4_38 : decode cT4 38 = .ok (.putfield 17, 3) := by decide +kernel
theorem dT4_41 : decode cT4 41 = .ok (.aload_n 0, 1) := by decide +kernel
theorem dT4_42 : decode cT4 42 = .ok (.aload_n 1, 1) := by decide +kernel
theorem dT4_43 : decode cT4 43 = .ok (.putfield 31, 3) := by decide +kernel
theorem dT4_46 : decode cT4 46 = .ok (.aload_n 0, 1) := by decide +kernel
theorem dT4_47 : decode cT4 47 = .ok (.aload_n 2, 1) := by decide +kernel
theorem dT4_48 : decode cT4 48 = .ok (.putfield 7, 3) := by decide +kernel
theorem dT4_51 : decode cT4 51 = .ok (.iload_n 3, 1) := by decide +kernel
theorem dT4_52 : decode cT4 52 = .ok (.ifCond .ne 8, 3) := by decide +kernel
theorem dT4_55 : decode cT4 55 = .ok (.aload_n 0, 1) := by decide +kernel
theorem dT4_56 : decode cT4 56 = .ok (.aconst_null, 1) := by decide +kernel
theorem dT4_57 : decode cT4 57 = .ok (.putfield 24, 3) := by decide +kernel
theorem dT4_60 : decode cT4 60 = .ok (.return_, 1) := by decide +kernel
theorem dE4_0 : decode cE4 0 = .ok (.aload_n 0, 1) := by decide +kernel
theorem dE4_1 : decode cE4 1 = .ok (.aload_n 1, 1) := by decide +kernel
theorem dE4_2 : decode cE4 2 = .ok (.aload_n 2, 1) := by decide +kernel
theorem dE4_3 : decode cE4 3 = .ok (.iload_n 3, 1) := by decide +kernel
theorem dE4_4 : decode cE4 4 = .ok (.iload 4, 2) := by decide +kernel
theorem dE4_6 : decode cE4 6 = .ok (.invokespecial 16, 3) := by decide +kernel
theorem dE4_9 : decode cE4 9 = .ok (.return_, 1) := by decide +kernel
theorem dR4_0 : decode cR4 0 = .ok (.aload_n 0, 1) := by decide +kernel
theorem dR4_1 : decode cR4 1 = .ok (.aload_n 1, 1) := by decide +kernel
theorem dR4_2 : decode cR4 2 = .ok (.aload_n 2, 1) := by decide +kernel
theorem dR4_3 : decode cR4 3 = .ok (.iload_n 3, 1) := by decide +kernel
theorem dR4_4 : decode cR4 4 = .ok (.iload 4, 2) := by decide +kernel
theorem dR4_6 : decode cR4 6 = .ok (.invokespecial 16, 3) := by decide +kernel
theorem dR4_9 : decode cR4 9 = .ok (.return_, 1) := by decide +kernel
