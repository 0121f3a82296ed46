section
def RX0 : String := "MeetingHouse$Coder"
def TX0 : u_T := fun k => match k with
  | 0 => ("MeetingHouse$Coder", "code", "[I", true)
  | 1 => ("MeetingHouse$Coder", "size", "I", false)
  | 2 => ("MeetingHouse$Coder", "slots", "I", false)
  | 3 => ("MeetingHouse$Coder", "topSlots", "[I", true)
  | 4 => ("MeetingHouse$Coder", "topCells", "[I", true)
  | 5 => ("MeetingHouse$Coder", "tops", "I", false)
  | 6 => ("MeetingHouse$Coder", "tree", "LMeetingHouse$Tree;", true)
  | _ => ("MeetingHouse$Coder", "names", "LMeetingHouse$Names;", true)
def RX1 : String := "MeetingHouse$Hall"
def TX1 : u_T := fun k => match k with
  | 0 => ("MeetingHouse$Hall", "procs", "[LMeetingHouse$Proc;", true)
  | 1 => ("MeetingHouse$Hall", "order", "[I", true)
  | 2 => ("MeetingHouse$Hall", "live", "I", false)
  | 3 => ("MeetingHouse$Hall", "made", "I", false)
  | 4 => ("MeetingHouse$Hall", "clock", "I", false)
  | 5 => ("MeetingHouse$Hall", "steps", "I", false)
  | 6 => ("MeetingHouse$Hall", "seed", "I", false)
  | 7 => ("MeetingHouse$Hall", "shown", "[B", true)
  | 8 => ("MeetingHouse$Hall", "shownCount", "I", false)
  | 9 => ("MeetingHouse$Hall", "keys", "[I", true)
  | 10 => ("MeetingHouse$Hall", "keyFrom", "I", false)
  | 11 => ("MeetingHouse$Hall", "keyCount", "I", false)
  | 12 => ("MeetingHouse$Hall", "message", "[I", true)
  | 13 => ("MeetingHouse$Hall", "messageSize", "I", false)
  | 14 => ("MeetingHouse$Hall", "facts", "[I", true)
  | _ => ("MeetingHouse$Hall", "meetings", "I", false)
def RX2 : String := "MeetingHouse$Heap"
def TX2 : u_T := fun k => match k with
  | 0 => ("MeetingHouse$Heap", "taken", "I", false)
  | 1 => ("MeetingHouse$Heap", "cells", "[I", false)
  | 2 => ("MeetingHouse$Heap", "start", "[I", false)
  | 3 => ("MeetingHouse$Heap", "length", "[I", false)
  | 4 => ("MeetingHouse$Heap", "line", "[I", false)
  | 5 => ("MeetingHouse$Heap", "each", "[I", false)
  | 6 => ("MeetingHouse$Heap", "before", "[I", false)
  | 7 => ("MeetingHouse$Heap", "after", "[I", false)
  | 8 => ("MeetingHouse$Heap", "handles", "I", false)
  | 9 => ("MeetingHouse$Heap", "unused", "I", false)
  | 10 => ("MeetingHouse$Heap", "first", "I", false)
  | 11 => ("MeetingHouse$Heap", "last", "I", false)
  | _ => ("MeetingHouse$Heap", "top", "I", false)
def RX3 : String := "MeetingHouse$Machine"
def TX3 : u_T := fun k => match k with
  | 0 => ("MeetingHouse$Machine", "begun", "Z", false)
  | 1 => ("MeetingHouse$Machine", "ended", "Z", false)
  | 2 => ("MeetingHouse$Machine", "coder", "LMeetingHouse$Coder;", true)
  | 3 => ("MeetingHouse$Machine", "text", "LMeetingHouse$Text;", true)
  | 4 => ("MeetingHouse$Machine", "heap", "LMeetingHouse$Heap;", true)
  | 5 => ("MeetingHouse$Machine", "hall", "LMeetingHouse$Hall;", true)
  | 6 => ("MeetingHouse$Machine", "rows", "[I", false)
  | 7 => ("MeetingHouse$Machine", "width", "I", false)
  | 8 => ("MeetingHouse$Machine", "stack", "[I", true)
  | 9 => ("MeetingHouse$Machine", "top", "I", false)
  | 10 => ("MeetingHouse$Machine", "current", "LMeetingHouse$Proc;", false)
  | 11 => ("MeetingHouse$Machine", "partner", "LMeetingHouse$Proc;", false)
  | 12 => ("MeetingHouse$Machine", "handing", "Z", false)
  | 13 => ("MeetingHouse$Machine", "going", "Z", false)
  | 14 => ("MeetingHouse$Machine", "mayAct", "Z", false)
  | 15 => ("MeetingHouse$Machine", "doing", "I", false)
  | 16 => ("MeetingHouse$Machine", "functions", "I", false)
  | 17 => ("MeetingHouse$Machine", "called", "I", false)
  | 18 => ("MeetingHouse$Machine", "refs", "[I", true)
  | 19 => ("MeetingHouse$Machine", "sizes", "[I", true)
  | _ => ("MeetingHouse$Machine", "scratch", "[I", true)
def RX4 : String := "MeetingHouse$Names"
def TX4 : u_T := fun k => match k with
  | 0 => ("MeetingHouse$Names", "kind", "[I", true)
  | 1 => ("MeetingHouse$Names", "spec", "[I", true)
  | 2 => ("MeetingHouse$Names", "number", "[I", true)
  | 3 => ("MeetingHouse$Names", "of", "[I", true)
  | 4 => ("MeetingHouse$Names", "node", "[I", true)
  | 5 => ("MeetingHouse$Names", "flags", "[I", true)
  | 6 => ("MeetingHouse$Names", "slot", "[I", true)
  | 7 => ("MeetingHouse$Names", "symbols", "I", false)
  | 8 => ("MeetingHouse$Names", "tree", "LMeetingHouse$Tree;", true)
  | 9 => ("MeetingHouse$Names", "title", "[I", true)
  | 10 => ("MeetingHouse$Names", "before", "[I", true)
  | 11 => ("MeetingHouse$Names", "latest", "[I", true)
  | 12 => ("MeetingHouse$Names", "stamps", "[I", true)
  | 13 => ("MeetingHouse$Names", "visible", "[I", true)
  | 14 => ("MeetingHouse$Names", "seen", "I", false)
  | _ => ("MeetingHouse$Names", "stamp", "I", false)
def RX5 : String := "MeetingHouse$Proc"
def TX5 : u_T := fun k => match k with
  | 0 => ("MeetingHouse$Proc", "row", "I", true)
  | 1 => ("MeetingHouse$Proc", "number", "I", false)
  | 2 => ("MeetingHouse$Proc", "state", "I", false)
  | 3 => ("MeetingHouse$Proc", "pc", "I", false)
  | 4 => ("MeetingHouse$Proc", "line", "I", false)
  | 5 => ("MeetingHouse$Proc", "fault", "I", false)
  | 6 => ("MeetingHouse$Proc", "parent", "I", false)
  | 7 => ("MeetingHouse$Proc", "pending", "I", false)
  | 8 => ("MeetingHouse$Proc", "calls", "I", false)
  | 9 => ("MeetingHouse$Proc", "channel", "I", false)
  | 10 => ("MeetingHouse$Proc", "wake", "I", false)
  | 11 => ("MeetingHouse$Proc", "held", "[I", false)
  | 12 => ("MeetingHouse$Proc", "heldCount", "I", false)
  | 13 => ("MeetingHouse$Proc", "timed", "Z", false)
  | 14 => ("MeetingHouse$Proc", "keyed", "Z", false)
  | 15 => ("MeetingHouse$Proc", "places", "[I", true)
  | _ => ("MeetingHouse$Proc", "placeCount", "I", false)
def RX6 : String := "MeetingHouse$Sides"
def TX6 : u_T := fun k => match k with
  | 0 => ("MeetingHouse$Sides", "tree", "LMeetingHouse$Tree;", true)
  | 1 => ("MeetingHouse$Sides", "names", "LMeetingHouse$Names;", true)
  | 2 => ("MeetingHouse$Sides", "bound", "[J", true)
  | 3 => ("MeetingHouse$Sides", "marks", "[I", true)
  | 4 => ("MeetingHouse$Sides", "mark", "I", false)
  | 5 => ("MeetingHouse$Sides", "replicators", "[I", true)
  | 6 => ("MeetingHouse$Sides", "replicatorCount", "I", false)
  | 7 => ("MeetingHouse$Sides", "values", "[I", true)
  | 8 => ("MeetingHouse$Sides", "valueCount", "I", false)
  | 9 => ("MeetingHouse$Sides", "pair", "[I", true)
  | 10 => ("MeetingHouse$Sides", "kept", "[I", true)
  | 11 => ("MeetingHouse$Sides", "ahead", "[I", true)
  | 12 => ("MeetingHouse$Sides", "rowOf", "[I", true)
  | 13 => ("MeetingHouse$Sides", "rowMark", "[I", true)
  | 14 => ("MeetingHouse$Sides", "rows", "I", false)
  | 15 => ("MeetingHouse$Sides", "parMark", "I", false)
  | _ => ("MeetingHouse$Sides", "own", "I", false)
def RX7 : String := "MeetingHouse$Text"
def TX7 : u_T := fun k => match k with
  | 0 => ("MeetingHouse$Text", "tape", "[B", true)
  | 1 => ("MeetingHouse$Text", "length", "I", false)
  | 2 => ("MeetingHouse$Text", "kind", "[I", true)
  | 3 => ("MeetingHouse$Text", "value", "[I", true)
  | 4 => ("MeetingHouse$Text", "line", "[I", true)
  | 5 => ("MeetingHouse$Text", "blanks", "[I", true)
  | 6 => ("MeetingHouse$Text", "tokens", "I", false)
  | 7 => ("MeetingHouse$Text", "lines", "I", false)
  | 8 => ("MeetingHouse$Text", "signs", "[I", true)
  | 9 => ("MeetingHouse$Text", "signsUsed", "I", false)
  | 10 => ("MeetingHouse$Text", "put", "I", false)
  | 11 => ("MeetingHouse$Text", "at", "I", false)
  | 12 => ("MeetingHouse$Text", "row", "I", false)
  | 13 => ("MeetingHouse$Text", "meant", "I", false)
  | 14 => ("MeetingHouse$Text", "letters", "[B", true)
  | 15 => ("MeetingHouse$Text", "nameFrom", "[I", true)
  | 16 => ("MeetingHouse$Text", "nameNext", "[I", true)
  | 17 => ("MeetingHouse$Text", "bucket", "[I", true)
  | _ => ("MeetingHouse$Text", "names", "I", false)
def RX8 : String := "MeetingHouse$Tree"
def TX8 : u_T := fun k => match k with
  | 0 => ("MeetingHouse$Tree", "kind", "[I", true)
  | 1 => ("MeetingHouse$Tree", "line", "[I", true)
  | 2 => ("MeetingHouse$Tree", "a", "[I", true)
  | 3 => ("MeetingHouse$Tree", "b", "[I", true)
  | 4 => ("MeetingHouse$Tree", "c", "[I", true)
  | 5 => ("MeetingHouse$Tree", "next", "[I", true)
  | 6 => ("MeetingHouse$Tree", "val", "[I", true)
  | 7 => ("MeetingHouse$Tree", "sym", "[I", true)
  | 8 => ("MeetingHouse$Tree", "type", "[I", true)
  | 9 => ("MeetingHouse$Tree", "worth", "[I", true)
  | 10 => ("MeetingHouse$Tree", "root", "I", false)
  | 11 => ("MeetingHouse$Tree", "fault", "I", false)
  | 12 => ("MeetingHouse$Tree", "text", "LMeetingHouse$Text;", true)
  | 13 => ("MeetingHouse$Tree", "nodes", "I", false)
  | 14 => ("MeetingHouse$Tree", "at", "I", false)
  | 15 => ("MeetingHouse$Tree", "open", "I", false)
  | _ => ("MeetingHouse$Tree", "kindNode", "I", false)
def RX9 : String := "MeetingHouse$Types"
def TX9 : u_T := fun k => match k with
  | 0 => ("MeetingHouse$Types", "told", "I", false)
  | 1 => ("MeetingHouse$Types", "tree", "LMeetingHouse$Tree;", true)
  | 2 => ("MeetingHouse$Types", "names", "LMeetingHouse$Names;", true)
  | 3 => ("MeetingHouse$Types", "marks", "[I", true)
  | 4 => ("MeetingHouse$Types", "mark", "I", false)
  | _ => ("MeetingHouse$Types", "cells", "I", false)
def RX10 : String := "MeetingHouse$Uses"
def TX10 : u_T := fun k => match k with
  | 0 => ("MeetingHouse$Uses", "line", "[I", true)
  | 1 => ("MeetingHouse$Uses", "root", "[I", true)
  | 2 => ("MeetingHouse$Uses", "index", "[I", true)
  | 3 => ("MeetingHouse$Uses", "flags", "[I", true)
  | 4 => ("MeetingHouse$Uses", "outside", "[I", true)
  | 5 => ("MeetingHouse$Uses", "outsideFrom", "[I", true)
  | 6 => ("MeetingHouse$Uses", "outsideTo", "[I", true)
  | 7 => ("MeetingHouse$Uses", "pars", "[I", true)
  | 8 => ("MeetingHouse$Uses", "parCount", "I", false)
  | 9 => ("MeetingHouse$Uses", "tree", "LMeetingHouse$Tree;", true)
  | 10 => ("MeetingHouse$Uses", "names", "LMeetingHouse$Names;", true)
  | 11 => ("MeetingHouse$Uses", "sides", "LMeetingHouse$Sides;", true)
  | 12 => ("MeetingHouse$Uses", "gathered", "[I", true)
  | 13 => ("MeetingHouse$Uses", "touched", "[I", true)
  | 14 => ("MeetingHouse$Uses", "uses", "I", false)
  | 15 => ("MeetingHouse$Uses", "outsides", "I", false)
  | 16 => ("MeetingHouse$Uses", "functionFrom", "I", false)
  | 17 => ("MeetingHouse$Uses", "acting", "Z", false)
  | _ => ("MeetingHouse$Uses", "weight", "J", false)
def RX11 : String := "MeetingHouse"
def TX11 : u_T := fun k => match k with
  | 0 => ("MeetingHouse", "text", "LMeetingHouse$Text;", true)
  | 1 => ("MeetingHouse", "tree", "LMeetingHouse$Tree;", true)
  | 2 => ("MeetingHouse", "names", "LMeetingHouse$Names;", true)
  | 3 => ("MeetingHouse", "types", "LMeetingHouse$Types;", true)
  | 4 => ("MeetingHouse", "sides", "LMeetingHouse$Sides;", true)
  | 5 => ("MeetingHouse", "uses", "LMeetingHouse$Uses;", true)
  | 6 => ("MeetingHouse", "coder", "LMeetingHouse$Coder;", true)
  | 7 => ("MeetingHouse", "machine", "LMeetingHouse$Machine;", true)
  | _ => ("MeetingHouse", "hasProgram", "Z", false)
def RX12 : String := "MeetingHouseModel$Halt"
def TX12 : u_T := fun k => match k with
  | 0 => ("java/lang/Throwable", "cause", "Ljava/lang/Throwable;", false)
  | 1 => ("java/lang/Throwable", "stackTrace", "[Ljava/lang/StackTraceElement;", false)
  | 2 => ("java/lang/Throwable", "suppressedExceptions", "Ljava/util/List;", false)
  | 3 => ("java/lang/Throwable", "detailMessage", "Ljava/lang/String;", false)
  | 4 => ("java/lang/Throwable", "backtrace", "Ljava/lang/Object;", false)
  | _ => ("java/lang/Throwable", "depth", "I", false)
def tyX12 : Nat → FieldType := fun k => match k with
  | 0 => .object "java/lang/Throwable"
  | 1 => .array (.object "java/lang/StackTraceElement")
  | 2 => .object "java/util/List"
  | 3 => .object "java/lang/String"
  | 4 => .object "java/lang/Object"
  | _ => .int
abbrev wsX120 : List Cond := u_ws RX12 TX12 6
theorem nmX12 : ∀ a, a < 6 → ∀ b, b < 6 → a ≠ b → (TX12 a).2.1 ≠ (TX12 b).2.1 := by decide +kernel
theorem tyX12_ok : ∀ k, k < 6 → parseFieldDescriptor (TX12 k).2.2.1 = some (tyX12 k) := by decide +kernel
abbrev cX12_init : ByteArray := prog_15_method_1_code
def yX12_init : MethodName := ⟨RX12, "<init>", "()V"⟩
def RX13 : String := "MeetingHouseModel"
def TX13 : u_T := fun k => match k with
  | 0 => ("MeetingHouseModel", "halt", "LMeetingHouseModel$Halt;", true)
  | 1 => ("MeetingHouseModel", "thrown", "I", false)
  | 2 => ("MeetingHouseModel", "tape", "[I", true)
  | 3 => ("MeetingHouseModel", "taped", "I", false)
  | 4 => ("MeetingHouseModel", "words", "[Ljava/lang/String;", true)
  | 5 => ("MeetingHouseModel", "signs", "[Ljava/lang/String;", true)
  | 6 => ("MeetingHouseModel", "tokens", "I", false)
  | 7 => ("MeetingHouseModel", "tKind", "[I", true)
  | 8 => ("MeetingHouseModel", "tValue", "[I", true)
  | 9 => ("MeetingHouseModel", "tLine", "[I", true)
  | 10 => ("MeetingHouseModel", "tBlanks", "[I", true)
  | 11 => ("MeetingHouseModel", "realTokens", "I", false)
  | 12 => ("MeetingHouseModel", "realLines", "I", false)
  | 13 => ("MeetingHouseModel", "names", "I", false)
  | 14 => ("MeetingHouseModel", "nameAt", "[I", true)
  | 15 => ("MeetingHouseModel", "nameSize", "[I", true)
  | 16 => ("MeetingHouseModel", "nameText", "[I", true)
  | 17 => ("MeetingHouseModel", "nameEnd", "I", false)
  | 18 => ("MeetingHouseModel", "strings", "I", false)
  | 19 => ("MeetingHouseModel", "stringAt", "[I", true)
  | 20 => ("MeetingHouseModel", "stringSize", "[I", true)
  | 21 => ("MeetingHouseModel", "stringText", "[I", true)
  | 22 => ("MeetingHouseModel", "stringEnd", "I", false)
  | 23 => ("MeetingHouseModel", "at", "I", false)
  | 24 => ("MeetingHouseModel", "value", "I", false)
  | 25 => ("MeetingHouseModel", "nodes", "I", false)
  | 26 => ("MeetingHouseModel", "kind", "[I", true)
  | 27 => ("MeetingHouseModel", "line", "[I", true)
  | 28 => ("MeetingHouseModel", "a", "[I", true)
  | 29 => ("MeetingHouseModel", "b", "[I", true)
  | 30 => ("MeetingHouseModel", "c", "[I", true)
  | 31 => ("MeetingHouseModel", "sym", "[I", true)
  | 32 => ("MeetingHouseModel", "next", "[I", true)
  | 33 => ("MeetingHouseModel", "type", "[I", true)
  | 34 => ("MeetingHouseModel", "spec", "[I", true)
  | 35 => ("MeetingHouseModel", "t", "I", false)
  | 36 => ("MeetingHouseModel", "fault", "I", false)
  | 37 => ("MeetingHouseModel", "faultLine", "I", false)
  | 38 => ("MeetingHouseModel", "open", "I", false)
  | 39 => ("MeetingHouseModel", "first", "I", false)
  | 40 => ("MeetingHouseModel", "last", "I", false)
  | 41 => ("MeetingHouseModel", "result", "[I", true)
  | 42 => ("MeetingHouseModel", "inner", "[I", true)
  | 43 => ("MeetingHouseModel", "program", "I", false)
  | 44 => ("MeetingHouseModel", "symbols", "I", false)
  | 45 => ("MeetingHouseModel", "sName", "[I", true)
  | 46 => ("MeetingHouseModel", "sKind", "[I", true)
  | 47 => ("MeetingHouseModel", "sType", "[I", true)
  | 48 => ("MeetingHouseModel", "sMany", "[I", true)
  | 49 => ("MeetingHouseModel", "sNode", "[I", true)
  | 50 => ("MeetingHouseModel", "sLine", "[I", true)
  | 51 => ("MeetingHouseModel", "sUnit", "[I", true)
  | 52 => ("MeetingHouseModel", "sSlot", "[I", true)
  | 53 => ("MeetingHouseModel", "sFormal", "[Z", true)
  | 54 => ("MeetingHouseModel", "sOf", "[I", true)
  | 55 => ("MeetingHouseModel", "sE", "[I", true)
  | 56 => ("MeetingHouseModel", "known", "I", false)
  | 57 => ("MeetingHouseModel", "knownSymbol", "[I", true)
  | 58 => ("MeetingHouseModel", "declared", "I", false)
  | 59 => ("MeetingHouseModel", "units", "I", false)
  | 60 => ("MeetingHouseModel", "unitAround", "[I", true)
  | 61 => ("MeetingHouseModel", "unitSlots", "[I", true)
  | 62 => ("MeetingHouseModel", "unit", "I", false)
  | 63 => ("MeetingHouseModel", "unitOf", "[I", true)
  | 64 => ("MeetingHouseModel", "worst", "I", false)
  | 65 => ("MeetingHouseModel", "worstLine", "I", false)
  | 66 => ("MeetingHouseModel", "symbolsFrom", "[I", true)
  | 67 => ("MeetingHouseModel", "ownFrom", "[I", true)
  | 68 => ("MeetingHouseModel", "sConstant", "[Z", true)
  | 69 => ("MeetingHouseModel", "sValue", "[I", true)
  | 70 => ("MeetingHouseModel", "tried", "[I", true)
  | 71 => ("MeetingHouseModel", "isTried", "[Z", true)
  | 72 => ("MeetingHouseModel", "failed", "I", false)
  | 73 => ("MeetingHouseModel", "many", "I", false)
  | 74 => ("MeetingHouseModel", "staticCells", "I", false)
  | 75 => ("MeetingHouseModel", "told", "I", false)
  | 76 => ("MeetingHouseModel", "weightOf", "[J", true)
  | 77 => ("MeetingHouseModel", "baseOf", "[I", true)
  | 78 => ("MeetingHouseModel", "countOf", "[I", true)
  | 79 => ("MeetingHouseModel", "weight", "J", false)
  | 80 => ("MeetingHouseModel", "effects", "I", false)
  | 81 => ("MeetingHouseModel", "effectOf", "[I", false)
  | 82 => ("MeetingHouseModel", "effectHow", "[I", false)
  | 83 => ("MeetingHouseModel", "effectFrom", "[I", true)
  | 84 => ("MeetingHouseModel", "effectTo", "[I", true)
  | 85 => ("MeetingHouseModel", "hasTalk", "[Z", true)
  | 86 => ("MeetingHouseModel", "gathered", "I", false)
  | 87 => ("MeetingHouseModel", "outside", "I", false)
  | 88 => ("MeetingHouseModel", "talks", "Z", false)
  | 89 => ("MeetingHouseModel", "placeSymbol", "I", false)
  | 90 => ("MeetingHouseModel", "placeIndex", "I", false)
  | 91 => ("MeetingHouseModel", "placeAll", "Z", false)
  | 92 => ("MeetingHouseModel", "placeBits", "[J", true)
  | 93 => ("MeetingHouseModel", "free", "I", false)
  | 94 => ("MeetingHouseModel", "freeSymbol", "[I", true)
  | 95 => ("MeetingHouseModel", "isFixed", "[Z", true)
  | 96 => ("MeetingHouseModel", "keptAt", "[I", true)
  | 97 => ("MeetingHouseModel", "keptBits", "[J", true)
  | 98 => ("MeetingHouseModel", "kept", "I", false)
  | 99 => ("MeetingHouseModel", "formalsTo", "I", false)
  | 100 => ("MeetingHouseModel", "within", "I", false)
  | 101 => ("MeetingHouseModel", "argSymbol", "[I", true)
  | 102 => ("MeetingHouseModel", "argAll", "[Z", true)
  | 103 => ("MeetingHouseModel", "argBits", "[J", true)
  | 104 => ("MeetingHouseModel", "touched", "I", false)
  | 105 => ("MeetingHouseModel", "touchedSymbol", "[I", true)
  | 106 => ("MeetingHouseModel", "aheadAll", "[Z", true)
  | 107 => ("MeetingHouseModel", "aheadBits", "[J", true)
  | 108 => ("MeetingHouseModel", "nowAll", "[Z", true)
  | 109 => ("MeetingHouseModel", "nowBits", "[J", true)
  | 110 => ("MeetingHouseModel", "there", "Z", false)
  | 111 => ("MeetingHouseModel", "heap", "[I", false)
  | 112 => ("MeetingHouseModel", "changedBy", "[I", false)
  | 113 => ("MeetingHouseModel", "usedBy", "[I", false)
  | 114 => ("MeetingHouseModel", "heapEnd", "I", false)
  | 115 => ("MeetingHouseModel", "pieces", "I", false)
  | 116 => ("MeetingHouseModel", "pieceAt", "[I", false)
  | 117 => ("MeetingHouseModel", "pieceSize", "[I", false)
  | 118 => ("MeetingHouseModel", "pages", "[[I", true)
  | 119 => ("MeetingHouseModel", "roomEnd", "I", false)
  | 120 => ("MeetingHouseModel", "gaps", "I", false)
  | 121 => ("MeetingHouseModel", "gapAt", "[I", false)
  | 122 => ("MeetingHouseModel", "gapSize", "[I", false)
  | 123 => ("MeetingHouseModel", "begun", "Z", false)
  | 124 => ("MeetingHouseModel", "ended", "Z", false)
  | 125 => ("MeetingHouseModel", "behindDeclarations", "Z", false)
  | 126 => ("MeetingHouseModel", "seed", "I", false)
  | 127 => ("MeetingHouseModel", "steps", "I", false)
  | 128 => ("MeetingHouseModel", "clock", "I", false)
  | 129 => ("MeetingHouseModel", "made", "I", false)
  | 130 => ("MeetingHouseModel", "meetings", "I", false)
  | 131 => ("MeetingHouseModel", "openCells", "I", false)
  | 132 => ("MeetingHouseModel", "clashes", "I", false)
  | 133 => ("MeetingHouseModel", "calls", "I", false)
  | 134 => ("MeetingHouseModel", "depth", "I", false)
  | 135 => ("MeetingHouseModel", "outSize", "I", false)
  | 136 => ("MeetingHouseModel", "out", "[I", true)
  | 137 => ("MeetingHouseModel", "inSize", "I", false)
  | 138 => ("MeetingHouseModel", "input", "[I", true)
  | 139 => ("MeetingHouseModel", "screenAt", "I", false)
  | 140 => ("MeetingHouseModel", "keyboardAt", "I", false)
  | 141 => ("MeetingHouseModel", "stringBase", "I", false)
  | 142 => ("MeetingHouseModel", "meeting", "[I", true)
  | 143 => ("MeetingHouseModel", "there1", "I", false)
  | 144 => ("MeetingHouseModel", "order", "[I", true)
  | 145 => ("MeetingHouseModel", "isSlot", "[Z", true)
  | 146 => ("MeetingHouseModel", "pNumber", "[I", true)
  | 147 => ("MeetingHouseModel", "pState", "[I", true)
  | 148 => ("MeetingHouseModel", "pParent", "[I", true)
  | 149 => ("MeetingHouseModel", "pFrame", "[I", true)
  | 150 => ("MeetingHouseModel", "pOwn", "[I", true)
  | 151 => ("MeetingHouseModel", "pTop", "[I", true)
  | 152 => ("MeetingHouseModel", "pLeft", "[I", true)
  | 153 => ("MeetingHouseModel", "pLine", "[I", true)
  | 154 => ("MeetingHouseModel", "pFault", "[I", true)
  | 155 => ("MeetingHouseModel", "pChannel", "[I", true)
  | 156 => ("MeetingHouseModel", "pTime", "[I", true)
  | 157 => ("MeetingHouseModel", "pBlock", "[I", true)
  | 158 => ("MeetingHouseModel", "pSize", "[I", true)
  | 159 => ("MeetingHouseModel", "pDone", "[Z", true)
  | 160 => ("MeetingHouseModel", "pCalls", "[I", true)
  | 161 => ("MeetingHouseModel", "me", "I", false)
  | 162 => ("MeetingHouseModel", "frame", "I", false)
  | 163 => ("MeetingHouseModel", "top", "I", false)
  | 164 => ("MeetingHouseModel", "here", "I", false)
  | 165 => ("MeetingHouseModel", "sheets", "[[I", true)
  | 166 => ("MeetingHouseModel", "kEnd", "I", false)
  | 167 => ("MeetingHouseModel", "kFree", "I", false)
  | 168 => ("MeetingHouseModel", "arrayAt", "I", false)
  | 169 => ("MeetingHouseModel", "arraySize", "I", false)
  | 170 => ("MeetingHouseModel", "tables", "I", false)
  | 171 => ("MeetingHouseModel", "tableAt", "[I", false)
  | 172 => ("MeetingHouseModel", "tableSize", "[I", false)
  | 173 => ("MeetingHouseModel", "isOuter", "Z", false)
  | 174 => ("MeetingHouseModel", "vTop", "I", false)
  | 175 => ("MeetingHouseModel", "vAt", "[I", false)
  | 176 => ("MeetingHouseModel", "vSize", "[I", false)
  | 177 => ("MeetingHouseModel", "second", "I", false)
  | 178 => ("MeetingHouseModel", "secondPops", "Z", false)
  | _ => ("MeetingHouseModel", "outer", "I", false)
def tyX13 : Nat → FieldType := fun k => match k with
  | 0 => .object "MeetingHouseModel$Halt"
  | 1 => .int
  | 2 => .array .int
  | 3 => .int
  | 4 => .array (.object "java/lang/String")
  | 5 => .array (.object "java/lang/String")
  | 6 => .int
  | 7 => .array .int
  | 8 => .array .int
  | 9 => .array .int
  | 10 => .array .int
  | 11 => .int
  | 12 => .int
  | 13 => .int
  | 14 => .array .int
  | 15 => .array .int
  | 16 => .array .int
  | 17 => .int
  | 18 => .int
  | 19 => .array .int
  | 20 => .array .int
  | 21 => .array .int
  | 22 => .int
  | 23 => .int
  | 24 => .int
  | 25 => .int
  | 26 => .array .int
  | 27 => .array .int
  | 28 => .array .int
  | 29 => .array .int
  | 30 => .array .int
  | 31 => .array .int
  | 32 => .array .int
  | 33 => .array .int
  | 34 => .array .int
  | 35 => .int
  | 36 => .int
  | 37 => .int
  | 38 => .int
  | 39 => .int
  | 40 => .int
  | 41 => .array .int
  | 42 => .array .int
  | 43 => .int
  | 44 => .int
  | 45 => .array .int
  | 46 => .array .int
  | 47 => .array .int
  | 48 => .array .int
  | 49 => .array .int
  | 50 => .array .int
  | 51 => .array .int
  | 52 => .array .int
  | 53 => .array .boolean
  | 54 => .array .int
  | 55 => .array .int
  | 56 => .int
  | 57 => .array .int
  | 58 => .int
  | 59 => .int
  | 60 => .array .int
  | 61 => .array .int
  | 62 => .int
  | 63 => .array .int
  | 64 => .int
  | 65 => .int
  | 66 => .array .int
  | 67 => .array .int
  | 68 => .array .boolean
  | 69 => .array .int
  | 70 => .array .int
  | 71 => .array .boolean
  | 72 => .int
  | 73 => .int
  | 74 => .int
  | 75 => .int
  | 76 => .array .long
  | 77 => .array .int
  | 78 => .array .int
  | 79 => .long
  | 80 => .int
  | 81 => .array .int
  | 82 => .array .int
  | 83 => .array .int
  | 84 => .array .int
  | 85 => .array .boolean
  | 86 => .int
  | 87 => .int
  | 88 => .boolean
  | 89 => .int
  | 90 => .int
  | 91 => .boolean
  | 92 => .array .long
  | 93 => .int
  | 94 => .array .int
  | 95 => .array .boolean
  | 96 => .array .int
  | 97 => .array .long
  | 98 => .int
  | 99 => .int
  | 100 => .int
  | 101 => .array .int
  | 102 => .array .boolean
  | 103 => .array .long
  | 104 => .int
  | 105 => .array .int
  | 106 => .array .boolean
  | 107 => .array .long
  | 108 => .array .boolean
  | 109 => .array .long
  | 110 => .boolean
  | 111 => .array .int
  | 112 => .array .int
  | 113 => .array .int
  | 114 => .int
  | 115 => .int
  | 116 => .array .int
  | 117 => .array .int
  | 118 => .array (.array .int)
  | 119 => .int
  | 120 => .int
  | 121 => .array .int
  | 122 => .array .int
  | 123 => .boolean
  | 124 => .boolean
  | 125 => .boolean
  | 126 => .int
  | 127 => .int
  | 128 => .int
  | 129 => .int
  | 130 => .int
  | 131 => .int
  | 132 => .int
  | 133 => .int
  | 134 => .int
  | 135 => .int
  | 136 => .array .int
  | 137 => .int
  | 138 => .array .int
  | 139 => .int
  | 140 => .int
  | 141 => .int
  | 142 => .array .int
  | 143 => .int
  | 144 => .array .int
  | 145 => .array .boolean
  | 146 => .array .int
  | 147 => .array .int
  | 148 => .array .int
  | 149 => .array .int
  | 150 => .array .int
  | 151 => .array .int
  | 152 => .array .int
  | 153 => .array .int
  | 154 => .array .int
  | 155 => .array .int
  | 156 => .array .int
  | 157 => .array .int
  | 158 => .array .int
  | 159 => .array .boolean
  | 160 => .array .int
  | 161 => .int
  | 162 => .int
  | 163 => .int
  | 164 => .int
  | 165 => .array (.array .int)
  | 166 => .int
  | 167 => .int
  | 168 => .int
  | 169 => .int
  | 170 => .int
  | 171 => .array .int
  | 172 => .array .int
  | 173 => .boolean
  | 174 => .int
  | 175 => .array .int
  | 176 => .array .int
  | 177 => .int
  | 178 => .boolean
  | _ => .int
abbrev wsX130 : List Cond := u_ws RX13 TX13 180
theorem nmX13 : ∀ a, a < 180 → ∀ b, b < 180 → a ≠ b → (TX13 a).2.1 ≠ (TX13 b).2.1 := by decide +kernel
theorem tyX13_ok : ∀ k, k < 180 → parseFieldDescriptor (TX13 k).2.2.1 = some (tyX13 k) := by decide +kernel
abbrev cX13_init : ByteArray := prog_14_method_1_code
def yX13_init : MethodName := ⟨RX13, "<init>", "()V"⟩
def RJ0 : String := "java/lang/String"
def wsX12_init : List Cond := .code yX12_init cX12_init 1 none :: ([])
def wsX13_init_r1 : List Cond := [Cond.methodLink RX13 1 objectInit, Cond.instanceMethod objectInit, Cond.code objectInit ⟨#[0xb1]⟩ 1 none, Cond.classLink RX13 7 RX12, Cond.instantiable RX12 6, Cond.initialized RX12, Cond.fieldLink RX13 10 "MeetingHouseModel" "halt" "LMeetingHouseModel$Halt;", Cond.arrayClass .int, Cond.fieldLink RX13 16 "MeetingHouseModel" "tape" "[I", Cond.classLink RX13 20 RJ0, Cond.fieldLink RX13 94 "MeetingHouseModel" "words" "[Ljava/lang/String;", Cond.fieldLink RX13 154 "MeetingHouseModel" "signs" "[Ljava/lang/String;", Cond.fieldLink RX13 157 "MeetingHouseModel" "tKind" "[I", Cond.fieldLink RX13 160 "MeetingHouseModel" "tValue" "[I", Cond.fieldLink RX13 163 "MeetingHouseModel" "tLine" "[I", Cond.fieldLink RX13 166 "MeetingHouseModel" "tBlanks" "[I", Cond.fieldLink RX13 169 "MeetingHouseModel" "nameAt" "[I", Cond.fieldLink RX13 172 "MeetingHouseModel" "nameSize" "[I", Cond.fieldLink RX13 175 "MeetingHouseModel" "nameText" "[I", Cond.fieldLink RX13 178 "MeetingHouseModel" "stringAt" "[I", Cond.fieldLink RX13 181 "MeetingHouseModel" "stringSize" "[I", Cond.fieldLink RX13 184 "MeetingHouseModel" "stringText" "[I", Cond.fieldLink RX13 187 "MeetingHouseModel" "kind" "[I", Cond.fieldLink RX13 190 "MeetingHouseModel" "line" "[I"]
def wsX13_init_r2 : List Cond := [Cond.fieldLink RX13 193 "MeetingHouseModel" "a" "[I", Cond.fieldLink RX13 196 "MeetingHouseModel" "b" "[I", Cond.fieldLink RX13 199 "MeetingHouseModel" "c" "[I", Cond.fieldLink RX13 202 "MeetingHouseModel" "sym" "[I", Cond.fieldLink RX13 205 "MeetingHouseModel" "next" "[I", Cond.fieldLink RX13 208 "MeetingHouseModel" "type" "[I", Cond.fieldLink RX13 211 "MeetingHouseModel" "spec" "[I", Cond.fieldLink RX13 214 "MeetingHouseModel" "result" "[I", Cond.fieldLink RX13 217 "MeetingHouseModel" "inner" "[I", Cond.fieldLink RX13 220 "MeetingHouseModel" "sName" "[I", Cond.fieldLink RX13 223 "MeetingHouseModel" "sKind" "[I", Cond.fieldLink RX13 226 "MeetingHouseModel" "sType" "[I", Cond.fieldLink RX13 229 "MeetingHouseModel" "sMany" "[I", Cond.fieldLink RX13 232 "MeetingHouseModel" "sNode" "[I", Cond.fieldLink RX13 235 "MeetingHouseModel" "sLine" "[I", Cond.fieldLink RX13 238 "MeetingHouseModel" "sUnit" "[I", Cond.fieldLink RX13 241 "MeetingHouseModel" "sSlot" "[I", Cond.arrayClass .boolean, Cond.fieldLink RX13 244 "MeetingHouseModel" "sFormal" "[Z", Cond.fieldLink RX13 248 "MeetingHouseModel" "sOf" "[I", Cond.fieldLink RX13 251 "MeetingHouseModel" "sE" "[I", Cond.fieldLink RX13 254 "MeetingHouseModel" "knownSymbol" "[I", Cond.fieldLink RX13 257 "MeetingHouseModel" "unitAround" "[I", Cond.fieldLink RX13 260 "MeetingHouseModel" "unitSlots" "[I"]
def wsX13_init_r3 : List Cond := [Cond.fieldLink RX13 263 "MeetingHouseModel" "unitOf" "[I", Cond.fieldLink RX13 266 "MeetingHouseModel" "symbolsFrom" "[I", Cond.fieldLink RX13 269 "MeetingHouseModel" "ownFrom" "[I", Cond.fieldLink RX13 272 "MeetingHouseModel" "sConstant" "[Z", Cond.fieldLink RX13 275 "MeetingHouseModel" "sValue" "[I", Cond.fieldLink RX13 278 "MeetingHouseModel" "tried" "[I", Cond.fieldLink RX13 281 "MeetingHouseModel" "isTried" "[Z", Cond.arrayClass .long, Cond.fieldLink RX13 284 "MeetingHouseModel" "weightOf" "[J", Cond.fieldLink RX13 288 "MeetingHouseModel" "baseOf" "[I", Cond.fieldLink RX13 291 "MeetingHouseModel" "countOf" "[I", Cond.constant RX13 294 (32768), Cond.fieldLink RX13 295 "MeetingHouseModel" "effectOf" "[I", Cond.fieldLink RX13 298 "MeetingHouseModel" "effectHow" "[I", Cond.fieldLink RX13 301 "MeetingHouseModel" "effectFrom" "[I", Cond.fieldLink RX13 304 "MeetingHouseModel" "effectTo" "[I", Cond.fieldLink RX13 307 "MeetingHouseModel" "hasTalk" "[Z", Cond.fieldLink RX13 310 "MeetingHouseModel" "placeBits" "[J", Cond.fieldLink RX13 313 "MeetingHouseModel" "freeSymbol" "[I", Cond.fieldLink RX13 316 "MeetingHouseModel" "isFixed" "[Z", Cond.fieldLink RX13 319 "MeetingHouseModel" "keptAt" "[I", Cond.fieldLink RX13 322 "MeetingHouseModel" "keptBits" "[J", Cond.fieldLink RX13 325 "MeetingHouseModel" "argSymbol" "[I", Cond.fieldLink RX13 328 "MeetingHouseModel" "argAll" "[Z"]
def wsX13_init_r4 : List Cond := [Cond.fieldLink RX13 331 "MeetingHouseModel" "argBits" "[J", Cond.fieldLink RX13 334 "MeetingHouseModel" "touchedSymbol" "[I", Cond.fieldLink RX13 337 "MeetingHouseModel" "aheadAll" "[Z", Cond.fieldLink RX13 340 "MeetingHouseModel" "aheadBits" "[J", Cond.fieldLink RX13 343 "MeetingHouseModel" "nowAll" "[Z", Cond.fieldLink RX13 346 "MeetingHouseModel" "nowBits" "[J", Cond.constant RX13 349 (65536), Cond.fieldLink RX13 350 "MeetingHouseModel" "heap" "[I", Cond.fieldLink RX13 353 "MeetingHouseModel" "changedBy" "[I", Cond.fieldLink RX13 356 "MeetingHouseModel" "usedBy" "[I", Cond.fieldLink RX13 359 "MeetingHouseModel" "pieceAt" "[I", Cond.fieldLink RX13 362 "MeetingHouseModel" "pieceSize" "[I", Cond.classLink RX13 365 "[I", Cond.fieldLink RX13 366 "MeetingHouseModel" "pages" "[[I", Cond.fieldLink RX13 370 "MeetingHouseModel" "gapAt" "[I", Cond.fieldLink RX13 373 "MeetingHouseModel" "gapSize" "[I", Cond.fieldLink RX13 376 "MeetingHouseModel" "out" "[I", Cond.fieldLink RX13 379 "MeetingHouseModel" "input" "[I", Cond.fieldLink RX13 382 "MeetingHouseModel" "meeting" "[I", Cond.fieldLink RX13 385 "MeetingHouseModel" "order" "[I", Cond.fieldLink RX13 388 "MeetingHouseModel" "isSlot" "[Z", Cond.fieldLink RX13 391 "MeetingHouseModel" "pNumber" "[I", Cond.fieldLink RX13 394 "MeetingHouseModel" "pState" "[I", Cond.fieldLink RX13 397 "MeetingHouseModel" "pParent" "[I"]
def wsX13_init_r5 : List Cond := [Cond.fieldLink RX13 400 "MeetingHouseModel" "pFrame" "[I", Cond.fieldLink RX13 403 "MeetingHouseModel" "pOwn" "[I", Cond.fieldLink RX13 406 "MeetingHouseModel" "pTop" "[I", Cond.fieldLink RX13 409 "MeetingHouseModel" "pLeft" "[I", Cond.fieldLink RX13 412 "MeetingHouseModel" "pLine" "[I", Cond.fieldLink RX13 415 "MeetingHouseModel" "pFault" "[I", Cond.fieldLink RX13 418 "MeetingHouseModel" "pChannel" "[I", Cond.fieldLink RX13 421 "MeetingHouseModel" "pTime" "[I", Cond.fieldLink RX13 424 "MeetingHouseModel" "pBlock" "[I", Cond.fieldLink RX13 427 "MeetingHouseModel" "pSize" "[I", Cond.fieldLink RX13 430 "MeetingHouseModel" "pDone" "[Z", Cond.fieldLink RX13 433 "MeetingHouseModel" "pCalls" "[I", Cond.fieldLink RX13 436 "MeetingHouseModel" "sheets" "[[I", Cond.fieldLink RX13 439 "MeetingHouseModel" "tableAt" "[I", Cond.fieldLink RX13 442 "MeetingHouseModel" "tableSize" "[I", Cond.fieldLink RX13 445 "MeetingHouseModel" "vAt" "[I", Cond.fieldLink RX13 448 "MeetingHouseModel" "vSize" "[I", Cond.methodLink RX13 9 yX12_init, Cond.instanceMethod yX12_init, Cond.code yX12_init cX12_init 1 none]
def wsX13_init : List Cond := .code yX13_init cX13_init 1 none :: ((wsX13_init_r1 ++ (wsX13_init_r2 ++ (wsX13_init_r3 ++ (wsX13_init_r4 ++ wsX13_init_r5)))) ++ wsX120 ++ wsX130)
theorem dX12_init_0 : decode cX12_init 0 = .ok (.aload_n 0, 1) := by decide +kernel
theorem dX12_init_1 : decode cX12_init 1 = .ok (.ldc 1, 2) := by decide +kernel
theorem dX12_init_3 : decode cX12_init 3 = .ok (.aconst_null, 1) := by decide +kernel
theorem dX12_init_4 : decode cX12_init 4 = .ok (.iconst 0, 1) := by decide +kernel
theorem dX12_init_5 : decode cX12_init 5 = .ok (.iconst 0, 1) := by decide +kernel
theorem dX12_init_6 : decode cX12_init 6 = .ok (.invokespecial 3, 3) := by decide +kernel
theorem dX12_init_9 : decode cX12_init 9 = .ok (.return_, 1) := by decide +kernel
abbrev vwCl : List vw_C := [(RX0, TX0, 8), (RX1, TX1, 16), (RX2, TX2, 13), (RX3, TX3, 21), (RX4, TX4, 16), (RX5, TX5, 17), (RX6, TX6, 17), (RX7, TX7, 19), (RX8, TX8, 17), (RX9, TX9, 6), (RX10, TX10, 19), (RX11, TX11, 9), (RX12, TX12, 6), (RX13, TX13, 180)]
def RTh : String := "java/lang/Throwable"
def REx : String := "java/lang/Exception"
def RRt : String := "java/lang/RuntimeException"
abbrev cT4 : ByteArray := prog_27_method_5_code
abbrev cE4 : ByteArray := prog_18_method_5_code
abbrev cR4 : ByteArray := prog_22_method_5_code
def yT4 : MethodName := ⟨RTh, "<init>", "(Ljava/lang/String;Ljava/lang/Throwable;ZZ)V"⟩
def yE4 : MethodName := ⟨REx, "<init>", "(Ljava/lang/String;Ljava/lang/Throwable;ZZ)V"⟩
def yR4 : MethodName := ⟨RRt, "<init>", "(Ljava/lang/String;Ljava/lang/Throwable;ZZ)V"⟩
theorem dT4_0 : decode cT4 0 = .ok (.aload_n 0, 1) := by decide +kernel
theorem dT4_1 : decode cT4 1 = .ok (.invokespecial 1, 3) := by decide +kernel
theorem dT4_4 : decode cT4 4 = .ok (.aload_n 0, 1) := by decide +kernel
theorem dT4_5 : decode cT4 5 = .ok (.aload_n 0, 1) := by decide +kernel
theorem dT4_6 : decode cT4 6 = .ok (.putfield 7, 3) := by decide +kernel
theorem dT4_9 : decode cT4 9 = .ok (.aload_n 0, 1) := by decide +kernel
theorem dT4_10 : decode cT4 10 = .ok (.getstatic 13, 3) := by decide +kernel
theorem dT4_13 : decode cT4 13 = .ok (.putfield 17, 3) := by decide +kernel
theorem dT4_16 : decode cT4 16 = .ok (.aload_n 0, 1) := by decide +kernel
theorem dT4_17 : decode cT4 17 = .ok (.getstatic 20, 3) := by decide +kernel
theorem dT4_20 : decode cT4 20 = .ok (.putfield 24, 3) := by decide +kernel
theorem dT4_23 : decode cT4 23 = .ok (.iload 4, 2) := by decide +kernel
theorem dT4_25 : decode cT4 25 = .ok (.ifCond .eq 11, 3) := by decide +kernel
theorem dT4_28 : decode cT4 28 = .ok (.aload_n 0, 1) := by decide +kernel
theorem dT4_29 : decode cT4 29 = .ok (.invokevirtual 27, 3) := by decide +kernel
theorem dT4_32 : decode cT4 32 = .ok (.pop, 1) := by decide +kernel
theorem dT4_33 : decode cT4 33 = .ok (.goto 8, 3) := by decide +kernel
theorem dT4_36 : decode cT4 36 = .ok (.aload_n 0, 1) := by decide +kernel
theorem dT4_37 : decode cT4 37 = .ok (.aconst_null, 1) := by decide +kernel
theorem dT4_38 : decode cT4 38 = .ok (.putfield 17, 3) := by decide +kernel
theorem dT4_41 : decode cT4 41 = .ok (.aload_n 0, 1) := by decide +kernel
theorem dT4_42 : decode cT4 42 = .ok (.aload_n 1, 1) := by decide +kernel
theorem dT4_43 : decode cT4 43 = .ok (.putfield 31, 3) := by decide +kernel
theorem dT4_46 : decode cT4 46 = .ok (.aload_n 0, 1) := by decide +kernel
theorem dT4_47 : decode cT4 47 = .ok (.aload_n 2, 1) := by decide +kernel
theorem dT4_48 : decode cT4 48 = .ok (.putfield 7, 3) := by decide +kernel
theorem dT4_51 : decode cT4 51 = .ok (.iload_n 3, 1) := by decide +kernel
theorem dT4_52 : decode cT4 52 = .ok (.ifCond .ne 8, 3) := by decide +kernel
theorem dT4_55 : decode cT4 55 = .ok (.aload_n 0, 1) := by decide +kernel
theorem dT4_56 : decode cT4 56 = .ok (.aconst_null, 1) := by decide +kernel
theorem dT4_57 : decode cT4 57 = .ok (.putfield 24, 3) := by decide +kernel
theorem dT4_60 : decode cT4 60 = .ok (.return_, 1) := by decide +kernel
theorem dE4_0 : decode cE4 0 = .ok (.aload_n 0, 1) := by decide +kernel
theorem dE4_1 : decode cE4 1 = .ok (.aload_n 1, 1) := by decide +kernel
theorem dE4_2 : decode cE4 2 = .ok (.aload_n 2, 1) := by decide +kernel
theorem dE4_3 : decode cE4 3 = .ok (.iload_n 3, 1) := by decide +kernel
theorem dE4_4 : decode cE4 4 = .ok (.iload 4, 2) := by decide +kernel
theorem dE4_6 : decode cE4 6 = .ok (.invokespecial 16, 3) := by decide +kernel
theorem dE4_9 : decode cE4 9 = .ok (.return_, 1) := by decide +kernel
theorem dR4_0 : decode cR4 0 = .ok (.aload_n 0, 1) := by decide +kernel
theorem dR4_1 : decode cR4 1 = .ok (.aload_n 1, 1) := by decide +kernel
theorem dR4_2 : decode cR4 2 = .ok (.aload_n 2, 1) := by decide +kernel
theorem dR4_3 : decode cR4 3 = .ok (.iload_n 3, 1) := by decide +kernel
theorem dR4_4 : decode cR4 4 = .ok (.iload 4, 2) := by decide +kernel
theorem dR4_6 : decode cR4 6 = .ok (.invokespecial 16, 3) := by decide +kernel
theorem dR4_9 : decode cR4 9 = .ok (.return_, 1) := by decide +kernel
end
section

theorem dX13_init_0 : decode cX13_init 0 = .ok (.aload_n 0, 1) := by decide +kernel
theorem dX13_init_1 : decode cX13_init 1 = .ok (.invokespecial 1, 3) := by decide +kernel
theorem dX13_init_4 : decode cX13_init 4 = .ok (.aload_n 0, 1) := by decide +kernel
theorem dX13_init_5 : decode cX13_init 5 = .ok (.new 7, 3) := by decide +kernel
theorem dX13_init_8 : decode cX13_init 8 = .ok (.dup, 1) := by decide +kernel
theorem dX13_init_9 : decode cX13_init 9 = .ok (.invokespecial 9, 3) := by decide +kernel
theorem dX13_init_12 : decode cX13_init 12 = .ok (.putfield 10, 3) := by decide +kernel
theorem dX13_init_15 : decode cX13_init 15 = .ok (.aload_n 0, 1) := by decide +kernel
theorem dX13_init_16 : decode cX13_init 16 = .ok (.sipush 6000, 3) := by decide +kernel
theorem dX13_init_19 : decode cX13_init 19 = .ok (.newarray .int, 2) := by decide +kernel
theorem dX13_init_21 : decode cX13_init 21 = .ok (.putfield 16, 3) := by decide +kernel
theorem dX13_init_24 : decode cX13_init 24 = .ok (.aload_n 0, 1) := by decide +kernel
theorem dX13_init_25 : decode cX13_init 25 = .ok (.bipush 36, 2) := by decide +kernel
theorem dX13_init_27 : decode cX13_init 27 = .ok (.anewarray 20, 3) := by decide +kernel
theorem dX13_init_30 : decode cX13_init 30 = .ok (.dup, 1) := by decide +kernel
theorem dX13_init_31 : decode cX13_init 31 = .ok (.iconst 0, 1) := by decide +kernel
theorem dX13_init_32 : decode cX13_init 32 = .ok (.ldc 22, 2) := by decide +kernel
theorem dX13_init_34 : decode cX13_init 34 = .ok (.aastore, 1) := by decide +kernel
theorem dX13_init_35 : decode cX13_init 35 = .ok (.dup, 1) := by decide +kernel
theorem dX13_init_36 : decode cX13_init 36 = .ok (.iconst 1, 1) := by decide +kernel
theorem dX13_init_37 : decode cX13_init 37 = .ok (.ldc 24, 2) := by decide +kernel
theorem dX13_init_39 : decode cX13_init 39 = .ok (.aastore, 1) := by decide +kernel
theorem dX13_init_40 : decode cX13_init 40 = .ok (.dup, 1) := by decide +kernel
theorem dX13_init_41 : decode cX13_init 41 = .ok (.iconst 2, 1) := by decide +kernel
theorem dX13_init_42 : decode cX13_init 42 = .ok (.ldc 26, 2) := by decide +kernel
theorem dX13_init_44 : decode cX13_init 44 = .ok (.aastore, 1) := by decide +kernel
theorem dX13_init_45 : decode cX13_init 45 = .ok (.dup, 1) := by decide +kernel
theorem dX13_init_46 : decode cX13_init 46 = .ok (.iconst 3, 1) := by decide +kernel
theorem dX13_init_47 : decode cX13_init 47 = .ok (.ldc 28, 2) := by decide +kernel
theorem dX13_init_49 : decode cX13_init 49 = .ok (.aastore, 1) := by decide +kernel
theorem dX13_init_50 : decode cX13_init 50 = .ok (.dup, 1) := by decide +kernel
theorem dX13_init_51 : decode cX13_init 51 = .ok (.iconst 4, 1) := by decide +kernel
theorem dX13_init_52 : decode cX13_init 52 = .ok (.ldc 30, 2) := by decide +kernel
theorem dX13_init_54 : decode cX13_init 54 = .ok (.aastore, 1) := by decide +kernel
theorem dX13_init_55 : decode cX13_init 55 = .ok (.dup, 1) := by decide +kernel
theorem dX13_init_56 : decode cX13_init 56 = .ok (.iconst 5, 1) := by decide +kernel
theorem dX13_init_57 : decode cX13_init 57 = .ok (.ldc 32, 2) := by decide +kernel
theorem dX13_init_59 : decode cX13_init 59 = .ok (.aastore, 1) := by decide +kernel
theorem dX13_init_60 : decode cX13_init 60 = .ok (.dup, 1) := by decide +kernel
theorem dX13_init_61 : decode cX13_init 61 = .ok (.bipush 6, 2) := by decide +kernel
theorem dX13_init_63 : decode cX13_init 63 = .ok (.ldc 34, 2) := by decide +kernel
theorem dX13_init_65 : decode cX13_init 65 = .ok (.aastore, 1) := by decide +kernel
theorem dX13_init_66 : decode cX13_init 66 = .ok (.dup, 1) := by decide +kernel
theorem dX13_init_67 : decode cX13_init 67 = .ok (.bipush 7, 2) := by decide +kernel
theorem dX13_init_69 : decode cX13_init 69 = .ok (.ldc 36, 2) := by decide +kernel
theorem dX13_init_71 : decode cX13_init 71 = .ok (.aastore, 1) := by decide +kernel
theorem dX13_init_72 : decode cX13_init 72 = .ok (.dup, 1) := by decide +kernel
theorem dX13_init_73 : decode cX13_init 73 = .ok (.bipush 8, 2) := by decide +kernel
theorem dX13_init_75 : decode cX13_init 75 = .ok (.ldc 38, 2) := by decide +kernel
theorem dX13_init_77 : decode cX13_init 77 = .ok (.aastore, 1) := by decide +kernel
theorem dX13_init_78 : decode cX13_init 78 = .ok (.dup, 1) := by decide +kernel
theorem dX13_init_79 : decode cX13_init 79 = .ok (.bipush 9, 2) := by decide +kernel
theorem dX13_init_81 : decode cX13_init 81 = .ok (.ldc 40, 2) := by decide +kernel
theorem dX13_init_83 : decode cX13_init 83 = .ok (.aastore, 1) := by decide +kernel
theorem dX13_init_84 : decode cX13_init 84 = .ok (.dup, 1) := by decide +kernel
theorem dX13_init_85 : decode cX13_init 85 = .ok (.bipush 10, 2) := by decide +kernel
theorem dX13_init_87 : decode cX13_init 87 = .ok (.ldc 42, 2) := by decide +kernel
theorem dX13_init_89 : decode cX13_init 89 = .ok (.aastore, 1) := by decide +kernel
theorem dX13_init_90 : decode cX13_init 90 = .ok (.dup, 1) := by decide +kernel
theorem dX13_init_91 : decode cX13_init 91 = .ok (.bipush 11, 2) := by decide +kernel
theorem dX13_init_93 : decode cX13_init 93 = .ok (.ldc 44, 2) := by decide +kernel
theorem dX13_init_95 : decode cX13_init 95 = .ok (.aastore, 1) := by decide +kernel
theorem dX13_init_96 : decode cX13_init 96 = .ok (.dup, 1) := by decide +kernel
theorem dX13_init_97 : decode cX13_init 97 = .ok (.bipush 12, 2) := by decide +kernel
theorem dX13_init_99 : decode cX13_init 99 = .ok (.ldc 46, 2) := by decide +kernel
theorem dX13_init_101 : decode cX13_init 101 = .ok (.aastore, 1) := by decide +kernel
theorem dX13_init_102 : decode cX13_init 102 = .ok (.dup, 1) := by decide +kernel
theorem dX13_init_103 : decode cX13_init 103 = .ok (.bipush 13, 2) := by decide +kernel
theorem dX13_init_105 : decode cX13_init 105 = .ok (.ldc 48, 2) := by decide +kernel
theorem dX13_init_107 : decode cX13_init 107 = .ok (.aastore, 1) := by decide +kernel
theorem dX13_init_108 : decode cX13_init 108 = .ok (.dup, 1) := by decide +kernel
theorem dX13_init_109 : decode cX13_init 109 = .ok (.bipush 14, 2) := by decide +kernel
theorem dX13_init_111 : decode cX13_init 111 = .ok (.ldc 50, 2) := by decide +kernel
theorem dX13_init_113 : decode cX13_init 113 = .ok (.aastore, 1) := by decide +kernel
theorem dX13_init_114 : decode cX13_init 114 = .ok (.dup, 1) := by decide +kernel
theorem dX13_init_115 : decode cX13_init 115 = .ok (.bipush 15, 2) := by decide +kernel
theorem dX13_init_117 : decode cX13_init 117 = .ok (.ldc 52, 2) := by decide +kernel
theorem dX13_init_119 : decode cX13_init 119 = .ok (.aastore, 1) := by decide +kernel
theorem dX13_init_120 : decode cX13_init 120 = .ok (.dup, 1) := by decide +kernel
theorem dX13_init_121 : decode cX13_init 121 = .ok (.bipush 16, 2) := by decide +kernel
theorem dX13_init_123 : decode cX13_init 123 = .ok (.ldc 54, 2) := by decide +kernel
theorem dX13_init_125 : decode cX13_init 125 = .ok (.aastore, 1) := by decide +kernel
theorem dX13_init_126 : decode cX13_init 126 = .ok (.dup, 1) := by decide +kernel
theorem dX13_init_127 : decode cX13_init 127 = .ok (.bipush 17, 2) := by decide +kernel
theorem dX13_init_129 : decode cX13_init 129 = .ok (.ldc 56, 2) := by decide +kernel
theorem dX13_init_131 : decode cX13_init 131 = .ok (.aastore, 1) := by decide +kernel
theorem dX13_init_132 : decode cX13_init 132 = .ok (.dup, 1) := by decide +kernel
theorem dX13_init_133 : decode cX13_init 133 = .ok (.bipush 18, 2) := by decide +kernel
theorem dX13_init_135 : decode cX13_init 135 = .ok (.ldc 58, 2) := by decide +kernel
theorem dX13_init_137 : decode cX13_init 137 = .ok (.aastore, 1) := by decide +kernel
theorem dX13_init_138 : decode cX13_init 138 = .ok (.dup, 1) := by decide +kernel
theorem dX13_init_139 : decode cX13_init 139 = .ok (.bipush 19, 2) := by decide +kernel
theorem dX13_init_141 : decode cX13_init 141 = .ok (.ldc 60, 2) := by decide +kernel
theorem dX13_init_143 : decode cX13_init 143 = .ok (.aastore, 1) := by decide +kernel
theorem dX13_init_144 : decode cX13_init 144 = .ok (.dup, 1) := by decide +kernel
theorem dX13_init_145 : decode cX13_init 145 = .ok (.bipush 20, 2) := by decide +kernel
theorem dX13_init_147 : decode cX13_init 147 = .ok (.ldc 62, 2) := by decide +kernel
theorem dX13_init_149 : decode cX13_init 149 = .ok (.aastore, 1) := by decide +kernel
theorem dX13_init_150 : decode cX13_init 150 = .ok (.dup, 1) := by decide +kernel
theorem dX13_init_151 : decode cX13_init 151 = .ok (.bipush 21, 2) := by decide +kernel
theorem dX13_init_153 : decode cX13_init 153 = .ok (.ldc 64, 2) := by decide +kernel
theorem dX13_init_155 : decode cX13_init 155 = .ok (.aastore, 1) := by decide +kernel
theorem dX13_init_156 : decode cX13_init 156 = .ok (.dup, 1) := by decide +kernel
theorem dX13_init_157 : decode cX13_init 157 = .ok (.bipush 22, 2) := by decide +kernel
theorem dX13_init_159 : decode cX13_init 159 = .ok (.ldc 66, 2) := by decide +kernel
theorem dX13_init_161 : decode cX13_init 161 = .ok (.aastore, 1) := by decide +kernel
theorem dX13_init_162 : decode cX13_init 162 = .ok (.dup, 1) := by decide +kernel
theorem dX13_init_163 : decode cX13_init 163 = .ok (.bipush 23, 2) := by decide +kernel
theorem dX13_init_165 : decode cX13_init 165 = .ok (.ldc 68, 2) := by decide +kernel
theorem dX13_init_167 : decode cX13_init 167 = .ok (.aastore, 1) := by decide +kernel
theorem dX13_init_168 : decode cX13_init 168 = .ok (.dup, 1) := by decide +kernel
theorem dX13_init_169 : decode cX13_init 169 = .ok (.bipush 24, 2) := by decide +kernel
theorem dX13_init_171 : decode cX13_init 171 = .ok (.ldc 70, 2) := by decide +kernel
theorem dX13_init_173 : decode cX13_init 173 = .ok (.aastore, 1) := by decide +kernel
theorem dX13_init_174 : decode cX13_init 174 = .ok (.dup, 1) := by decide +kernel
theorem dX13_init_175 : decode cX13_init 175 = .ok (.bipush 25, 2) := by decide +kernel
theorem dX13_init_177 : decode cX13_init 177 = .ok (.ldc 72, 2) := by decide +kernel
theorem dX13_init_179 : decode cX13_init 179 = .ok (.aastore, 1) := by decide +kernel
theorem dX13_init_180 : decode cX13_init 180 = .ok (.dup, 1) := by decide +kernel
theorem dX13_init_181 : decode cX13_init 181 = .ok (.bipush 26, 2) := by decide +kernel
theorem dX13_init_183 : decode cX13_init 183 = .ok (.ldc 74, 2) := by decide +kernel
theorem dX13_init_185 : decode cX13_init 185 = .ok (.aastore, 1) := by decide +kernel
theorem dX13_init_186 : decode cX13_init 186 = .ok (.dup, 1) := by decide +kernel
theorem dX13_init_187 : decode cX13_init 187 = .ok (.bipush 27, 2) := by decide +kernel
theorem dX13_init_189 : decode cX13_init 189 = .ok (.ldc 76, 2) := by decide +kernel
theorem dX13_init_191 : decode cX13_init 191 = .ok (.aastore, 1) := by decide +kernel
theorem dX13_init_192 : decode cX13_init 192 = .ok (.dup, 1) := by decide +kernel
theorem dX13_init_193 : decode cX13_init 193 = .ok (.bipush 28, 2) := by decide +kernel
theorem dX13_init_195 : decode cX13_init 195 = .ok (.ldc 78, 2) := by decide +kernel
theorem dX13_init_197 : decode cX13_init 197 = .ok (.aastore, 1) := by decide +kernel
theorem dX13_init_198 : decode cX13_init 198 = .ok (.dup, 1) := by decide +kernel
theorem dX13_init_199 : decode cX13_init 199 = .ok (.bipush 29, 2) := by decide +kernel
theorem dX13_init_201 : decode cX13_init 201 = .ok (.ldc 80, 2) := by decide +kernel
theorem dX13_init_203 : decode cX13_init 203 = .ok (.aastore, 1) := by decide +kernel
theorem dX13_init_204 : decode cX13_init 204 = .ok (.dup, 1) := by decide +kernel
theorem dX13_init_205 : decode cX13_init 205 = .ok (.bipush 30, 2) := by decide +kernel
theorem dX13_init_207 : decode cX13_init 207 = .ok (.ldc 82, 2) := by decide +kernel
theorem dX13_init_209 : decode cX13_init 209 = .ok (.aastore, 1) := by decide +kernel
theorem dX13_init_210 : decode cX13_init 210 = .ok (.dup, 1) := by decide +kernel
theorem dX13_init_211 : decode cX13_init 211 = .ok (.bipush 31, 2) := by decide +kernel
theorem dX13_init_213 : decode cX13_init 213 = .ok (.ldc 84, 2) := by decide +kernel
theorem dX13_init_215 : decode cX13_init 215 = .ok (.aastore, 1) := by decide +kernel
theorem dX13_init_216 : decode cX13_init 216 = .ok (.dup, 1) := by decide +kernel
theorem dX13_init_217 : decode cX13_init 217 = .ok (.bipush 32, 2) := by decide +kernel
theorem dX13_init_219 : decode cX13_init 219 = .ok (.ldc 86, 2) := by decide +kernel
theorem dX13_init_221 : decode cX13_init 221 = .ok (.aastore, 1) := by decide +kernel
theorem dX13_init_222 : decode cX13_init 222 = .ok (.dup, 1) := by decide +kernel
theorem dX13_init_223 : decode cX13_init 223 = .ok (.bipush 33, 2) := by decide +kernel
theorem dX13_init_225 : decode cX13_init 225 = .ok (.ldc 88, 2) := by decide +kernel
theorem dX13_init_227 : decode cX13_init 227 = .ok (.aastore, 1) := by decide +kernel
theorem dX13_init_228 : decode cX13_init 228 = .ok (.dup, 1) := by decide +kernel
theorem dX13_init_229 : decode cX13_init 229 = .ok (.bipush 34, 2) := by decide +kernel
theorem dX13_init_231 : decode cX13_init 231 = .ok (.ldc 90, 2) := by decide +kernel
theorem dX13_init_233 : decode cX13_init 233 = .ok (.aastore, 1) := by decide +kernel
theorem dX13_init_234 : decode cX13_init 234 = .ok (.dup, 1) := by decide +kernel
theorem dX13_init_235 : decode cX13_init 235 = .ok (.bipush 35, 2) := by decide +kernel
theorem dX13_init_237 : decode cX13_init 237 = .ok (.ldc 92, 2) := by decide +kernel
theorem dX13_init_239 : decode cX13_init 239 = .ok (.aastore, 1) := by decide +kernel
theorem dX13_init_240 : decode cX13_init 240 = .ok (.putfield 94, 3) := by decide +kernel
theorem dX13_init_243 : decode cX13_init 243 = .ok (.aload_n 0, 1) := by decide +kernel
theorem dX13_init_244 : decode cX13_init 244 = .ok (.bipush 28, 2) := by decide +kernel
theorem dX13_init_246 : decode cX13_init 246 = .ok (.anewarray 20, 3) := by decide +kernel
theorem dX13_init_249 : decode cX13_init 249 = .ok (.dup, 1) := by decide +kernel
theorem dX13_init_250 : decode cX13_init 250 = .ok (.iconst 0, 1) := by decide +kernel
theorem dX13_init_251 : decode cX13_init 251 = .ok (.ldc 98, 2) := by decide +kernel
theorem dX13_init_253 : decode cX13_init 253 = .ok (.aastore, 1) := by decide +kernel
theorem dX13_init_254 : decode cX13_init 254 = .ok (.dup, 1) := by decide +kernel
theorem dX13_init_255 : decode cX13_init 255 = .ok (.iconst 1, 1) := by decide +kernel
theorem dX13_init_256 : decode cX13_init 256 = .ok (.ldc 100, 2) := by decide +kernel
theorem dX13_init_258 : decode cX13_init 258 = .ok (.aastore, 1) := by decide +kernel
theorem dX13_init_259 : decode cX13_init 259 = .ok (.dup, 1) := by decide +kernel
theorem dX13_init_260 : decode cX13_init 260 = .ok (.iconst 2, 1) := by decide +kernel
theorem dX13_init_261 : decode cX13_init 261 = .ok (.ldc 102, 2) := by decide +kernel
theorem dX13_init_263 : decode cX13_init 263 = .ok (.aastore, 1) := by decide +kernel
theorem dX13_init_264 : decode cX13_init 264 = .ok (.dup, 1) := by decide +kernel
theorem dX13_init_265 : decode cX13_init 265 = .ok (.iconst 3, 1) := by decide +kernel
theorem dX13_init_266 : decode cX13_init 266 = .ok (.ldc 104, 2) := by decide +kernel
theorem dX13_init_268 : decode cX13_init 268 = .ok (.aastore, 1) := by decide +kernel
theorem dX13_init_269 : decode cX13_init 269 = .ok (.dup, 1) := by decide +kernel
theorem dX13_init_270 : decode cX13_init 270 = .ok (.iconst 4, 1) := by decide +kernel
theorem dX13_init_271 : decode cX13_init 271 = .ok (.ldc 106, 2) := by decide +kernel
theorem dX13_init_273 : decode cX13_init 273 = .ok (.aastore, 1) := by decide +kernel
theorem dX13_init_274 : decode cX13_init 274 = .ok (.dup, 1) := by decide +kernel
theorem dX13_init_275 : decode cX13_init 275 = .ok (.iconst 5, 1) := by decide +kernel
theorem dX13_init_276 : decode cX13_init 276 = .ok (.ldc 108, 2) := by decide +kernel
theorem dX13_init_278 : decode cX13_init 278 = .ok (.aastore, 1) := by decide +kernel
theorem dX13_init_279 : decode cX13_init 279 = .ok (.dup, 1) := by decide +kernel
theorem dX13_init_280 : decode cX13_init 280 = .ok (.bipush 6, 2) := by decide +kernel
theorem dX13_init_282 : decode cX13_init 282 = .ok (.ldc 110, 2) := by decide +kernel
theorem dX13_init_284 : decode cX13_init 284 = .ok (.aastore, 1) := by decide +kernel
theorem dX13_init_285 : decode cX13_init 285 = .ok (.dup, 1) := by decide +kernel
theorem dX13_init_286 : decode cX13_init 286 = .ok (.bipush 7, 2) := by decide +kernel
theorem dX13_init_288 : decode cX13_init 288 = .ok (.ldc 112, 2) := by decide +kernel
theorem dX13_init_290 : decode cX13_init 290 = .ok (.aastore, 1) := by decide +kernel
theorem dX13_init_291 : decode cX13_init 291 = .ok (.dup, 1) := by decide +kernel
theorem dX13_init_292 : decode cX13_init 292 = .ok (.bipush 8, 2) := by decide +kernel
theorem dX13_init_294 : decode cX13_init 294 = .ok (.ldc 114, 2) := by decide +kernel
theorem dX13_init_296 : decode cX13_init 296 = .ok (.aastore, 1) := by decide +kernel
theorem dX13_init_297 : decode cX13_init 297 = .ok (.dup, 1) := by decide +kernel
theorem dX13_init_298 : decode cX13_init 298 = .ok (.bipush 9, 2) := by decide +kernel
theorem dX13_init_300 : decode cX13_init 300 = .ok (.ldc 116, 2) := by decide +kernel
theorem dX13_init_302 : decode cX13_init 302 = .ok (.aastore, 1) := by decide +kernel
theorem dX13_init_303 : decode cX13_init 303 = .ok (.dup, 1) := by decide +kernel
theorem dX13_init_304 : decode cX13_init 304 = .ok (.bipush 10, 2) := by decide +kernel
theorem dX13_init_306 : decode cX13_init 306 = .ok (.ldc 118, 2) := by decide +kernel
theorem dX13_init_308 : decode cX13_init 308 = .ok (.aastore, 1) := by decide +kernel
theorem dX13_init_309 : decode cX13_init 309 = .ok (.dup, 1) := by decide +kernel
theorem dX13_init_310 : decode cX13_init 310 = .ok (.bipush 11, 2) := by decide +kernel
theorem dX13_init_312 : decode cX13_init 312 = .ok (.ldc 120, 2) := by decide +kernel
theorem dX13_init_314 : decode cX13_init 314 = .ok (.aastore, 1) := by decide +kernel
theorem dX13_init_315 : decode cX13_init 315 = .ok (.dup, 1) := by decide +kernel
theorem dX13_init_316 : decode cX13_init 316 = .ok (.bipush 12, 2) := by decide +kernel
theorem dX13_init_318 : decode cX13_init 318 = .ok (.ldc 122, 2) := by decide +kernel
theorem dX13_init_320 : decode cX13_init 320 = .ok (.aastore, 1) := by decide +kernel
theorem dX13_init_321 : decode cX13_init 321 = .ok (.dup, 1) := by decide +kernel
theorem dX13_init_322 : decode cX13_init 322 = .ok (.bipush 13, 2) := by decide +kernel
theorem dX13_init_324 : decode cX13_init 324 = .ok (.ldc 124, 2) := by decide +kernel
theorem dX13_init_326 : decode cX13_init 326 = .ok (.aastore, 1) := by decide +kernel
theorem dX13_init_327 : decode cX13_init 327 = .ok (.dup, 1) := by decide +kernel
theorem dX13_init_328 : decode cX13_init 328 = .ok (.bipush 14, 2) := by decide +kernel
theorem dX13_init_330 : decode cX13_init 330 = .ok (.ldc 126, 2) := by decide +kernel
theorem dX13_init_332 : decode cX13_init 332 = .ok (.aastore, 1) := by decide +kernel
theorem dX13_init_333 : decode cX13_init 333 = .ok (.dup, 1) := by decide +kernel
theorem dX13_init_334 : decode cX13_init 334 = .ok (.bipush 15, 2) := by decide +kernel
theorem dX13_init_336 : decode cX13_init 336 = .ok (.ldc 128, 2) := by decide +kernel
theorem dX13_init_338 : decode cX13_init 338 = .ok (.aastore, 1) := by decide +kernel
theorem dX13_init_339 : decode cX13_init 339 = .ok (.dup, 1) := by decide +kernel
theorem dX13_init_340 : decode cX13_init 340 = .ok (.bipush 16, 2) := by decide +kernel
theorem dX13_init_342 : decode cX13_init 342 = .ok (.ldc 130, 2) := by decide +kernel
theorem dX13_init_344 : decode cX13_init 344 = .ok (.aastore, 1) := by decide +kernel
theorem dX13_init_345 : decode cX13_init 345 = .ok (.dup, 1) := by decide +kernel
theorem dX13_init_346 : decode cX13_init 346 = .ok (.bipush 17, 2) := by decide +kernel
theorem dX13_init_348 : decode cX13_init 348 = .ok (.ldc 132, 2) := by decide +kernel
theorem dX13_init_350 : decode cX13_init 350 = .ok (.aastore, 1) := by decide +kernel
theorem dX13_init_351 : decode cX13_init 351 = .ok (.dup, 1) := by decide +kernel
theorem dX13_init_352 : decode cX13_init 352 = .ok (.bipush 18, 2) := by decide +kernel
theorem dX13_init_354 : decode cX13_init 354 = .ok (.ldc 134, 2) := by decide +kernel
theorem dX13_init_356 : decode cX13_init 356 = .ok (.aastore, 1) := by decide +kernel
theorem dX13_init_357 : decode cX13_init 357 = .ok (.dup, 1) := by decide +kernel
theorem dX13_init_358 : decode cX13_init 358 = .ok (.bipush 19, 2) := by decide +kernel
theorem dX13_init_360 : decode cX13_init 360 = .ok (.ldc 136, 2) := by decide +kernel
theorem dX13_init_362 : decode cX13_init 362 = .ok (.aastore, 1) := by decide +kernel
theorem dX13_init_363 : decode cX13_init 363 = .ok (.dup, 1) := by decide +kernel
theorem dX13_init_364 : decode cX13_init 364 = .ok (.bipush 20, 2) := by decide +kernel
theorem dX13_init_366 : decode cX13_init 366 = .ok (.ldc 138, 2) := by decide +kernel
theorem dX13_init_368 : decode cX13_init 368 = .ok (.aastore, 1) := by decide +kernel
theorem dX13_init_369 : decode cX13_init 369 = .ok (.dup, 1) := by decide +kernel
theorem dX13_init_370 : decode cX13_init 370 = .ok (.bipush 21, 2) := by decide +kernel
theorem dX13_init_372 : decode cX13_init 372 = .ok (.ldc 140, 2) := by decide +kernel
theorem dX13_init_374 : decode cX13_init 374 = .ok (.aastore, 1) := by decide +kernel
theorem dX13_init_375 : decode cX13_init 375 = .ok (.dup, 1) := by decide +kernel
theorem dX13_init_376 : decode cX13_init 376 = .ok (.bipush 22, 2) := by decide +kernel
theorem dX13_init_378 : decode cX13_init 378 = .ok (.ldc 142, 2) := by decide +kernel
theorem dX13_init_380 : decode cX13_init 380 = .ok (.aastore, 1) := by decide +kernel
theorem dX13_init_381 : decode cX13_init 381 = .ok (.dup, 1) := by decide +kernel
theorem dX13_init_382 : decode cX13_init 382 = .ok (.bipush 23, 2) := by decide +kernel
theorem dX13_init_384 : decode cX13_init 384 = .ok (.ldc 144, 2) := by decide +kernel
theorem dX13_init_386 : decode cX13_init 386 = .ok (.aastore, 1) := by decide +kernel
theorem dX13_init_387 : decode cX13_init 387 = .ok (.dup, 1) := by decide +kernel
theorem dX13_init_388 : decode cX13_init 388 = .ok (.bipush 24, 2) := by decide +kernel
theorem dX13_init_390 : decode cX13_init 390 = .ok (.ldc 146, 2) := by decide +kernel
theorem dX13_init_392 : decode cX13_init 392 = .ok (.aastore, 1) := by decide +kernel
theorem dX13_init_393 : decode cX13_init 393 = .ok (.dup, 1) := by decide +kernel
theorem dX13_init_394 : decode cX13_init 394 = .ok (.bipush 25, 2) := by decide +kernel
theorem dX13_init_396 : decode cX13_init 396 = .ok (.ldc 148, 2) := by decide +kernel
theorem dX13_init_398 : decode cX13_init 398 = .ok (.aastore, 1) := by decide +kernel
theorem dX13_init_399 : decode cX13_init 399 = .ok (.dup, 1) := by decide +kernel
theorem dX13_init_400 : decode cX13_init 400 = .ok (.bipush 26, 2) := by decide +kernel
theorem dX13_init_402 : decode cX13_init 402 = .ok (.ldc 150, 2) := by decide +kernel
theorem dX13_init_404 : decode cX13_init 404 = .ok (.aastore, 1) := by decide +kernel
theorem dX13_init_405 : decode cX13_init 405 = .ok (.dup, 1) := by decide +kernel
theorem dX13_init_406 : decode cX13_init 406 = .ok (.bipush 27, 2) := by decide +kernel
theorem dX13_init_408 : decode cX13_init 408 = .ok (.ldc 152, 2) := by decide +kernel
theorem dX13_init_410 : decode cX13_init 410 = .ok (.aastore, 1) := by decide +kernel
theorem dX13_init_411 : decode cX13_init 411 = .ok (.putfield 154, 3) := by decide +kernel
theorem dX13_init_414 : decode cX13_init 414 = .ok (.aload_n 0, 1) := by decide +kernel
theorem dX13_init_415 : decode cX13_init 415 = .ok (.sipush 12002, 3) := by decide +kernel
theorem dX13_init_418 : decode cX13_init 418 = .ok (.newarray .int, 2) := by decide +kernel
theorem dX13_init_420 : decode cX13_init 420 = .ok (.putfield 157, 3) := by decide +kernel
theorem dX13_init_423 : decode cX13_init 423 = .ok (.aload_n 0, 1) := by decide +kernel
theorem dX13_init_424 : decode cX13_init 424 = .ok (.sipush 12002, 3) := by decide +kernel
theorem dX13_init_427 : decode cX13_init 427 = .ok (.newarray .int, 2) := by decide +kernel
theorem dX13_init_429 : decode cX13_init 429 = .ok (.putfield 160, 3) := by decide +kernel
theorem dX13_init_432 : decode cX13_init 432 = .ok (.aload_n 0, 1) := by decide +kernel
theorem dX13_init_433 : decode cX13_init 433 = .ok (.sipush 12002, 3) := by decide +kernel
theorem dX13_init_436 : decode cX13_init 436 = .ok (.newarray .int, 2) := by decide +kernel
theorem dX13_init_438 : decode cX13_init 438 = .ok (.putfield 163, 3) := by decide +kernel
theorem dX13_init_441 : decode cX13_init 441 = .ok (.aload_n 0, 1) := by decide +kernel
theorem dX13_init_442 : decode cX13_init 442 = .ok (.sipush 12002, 3) := by decide +kernel
theorem dX13_init_445 : decode cX13_init 445 = .ok (.newarray .int, 2) := by decide +kernel
theorem dX13_init_447 : decode cX13_init 447 = .ok (.putfield 166, 3) := by decide +kernel
theorem dX13_init_450 : decode cX13_init 450 = .ok (.aload_n 0, 1) := by decide +kernel
theorem dX13_init_451 : decode cX13_init 451 = .ok (.sipush 6001, 3) := by decide +kernel
theorem dX13_init_454 : decode cX13_init 454 = .ok (.newarray .int, 2) := by decide +kernel
theorem dX13_init_456 : decode cX13_init 456 = .ok (.putfield 169, 3) := by decide +kernel
theorem dX13_init_459 : decode cX13_init 459 = .ok (.aload_n 0, 1) := by decide +kernel
theorem dX13_init_460 : decode cX13_init 460 = .ok (.sipush 6001, 3) := by decide +kernel
theorem dX13_init_463 : decode cX13_init 463 = .ok (.newarray .int, 2) := by decide +kernel
theorem dX13_init_465 : decode cX13_init 465 = .ok (.putfield 172, 3) := by decide +kernel
theorem dX13_init_468 : decode cX13_init 468 = .ok (.aload_n 0, 1) := by decide +kernel
theorem dX13_init_469 : decode cX13_init 469 = .ok (.sipush 6000, 3) := by decide +kernel
theorem dX13_init_472 : decode cX13_init 472 = .ok (.newarray .int, 2) := by decide +kernel
theorem dX13_init_474 : decode cX13_init 474 = .ok (.putfield 175, 3) := by decide +kernel
theorem dX13_init_477 : decode cX13_init 477 = .ok (.aload_n 0, 1) := by decide +kernel
theorem dX13_init_478 : decode cX13_init 478 = .ok (.sipush 3001, 3) := by decide +kernel
theorem dX13_init_481 : decode cX13_init 481 = .ok (.newarray .int, 2) := by decide +kernel
theorem dX13_init_483 : decode cX13_init 483 = .ok (.putfield 178, 3) := by decide +kernel
theorem dX13_init_486 : decode cX13_init 486 = .ok (.aload_n 0, 1) := by decide +kernel
theorem dX13_init_487 : decode cX13_init 487 = .ok (.sipush 3001, 3) := by decide +kernel
theorem dX13_init_490 : decode cX13_init 490 = .ok (.newarray .int, 2) := by decide +kernel
theorem dX13_init_492 : decode cX13_init 492 = .ok (.putfield 181, 3) := by decide +kernel
theorem dX13_init_495 : decode cX13_init 495 = .ok (.aload_n 0, 1) := by decide +kernel
theorem dX13_init_496 : decode cX13_init 496 = .ok (.sipush 6000, 3) := by decide +kernel
theorem dX13_init_499 : decode cX13_init 499 = .ok (.newarray .int, 2) := by decide +kernel
theorem dX13_init_501 : decode cX13_init 501 = .ok (.putfield 184, 3) := by decide +kernel
theorem dX13_init_504 : decode cX13_init 504 = .ok (.aload_n 0, 1) := by decide +kernel
theorem dX13_init_505 : decode cX13_init 505 = .ok (.sipush 14000, 3) := by decide +kernel
theorem dX13_init_508 : decode cX13_init 508 = .ok (.newarray .int, 2) := by decide +kernel
theorem dX13_init_510 : decode cX13_init 510 = .ok (.putfield 187, 3) := by decide +kernel
theorem dX13_init_513 : decode cX13_init 513 = .ok (.aload_n 0, 1) := by decide +kernel
theorem dX13_init_514 : decode cX13_init 514 = .ok (.sipush 14000, 3) := by decide +kernel
theorem dX13_init_517 : decode cX13_init 517 = .ok (.newarray .int, 2) := by decide +kernel
theorem dX13_init_519 : decode cX13_init 519 = .ok (.putfield 190, 3) := by decide +kernel
theorem dX13_init_522 : decode cX13_init 522 = .ok (.aload_n 0, 1) := by decide +kernel
theorem dX13_init_523 : decode cX13_init 523 = .ok (.sipush 14000, 3) := by decide +kernel
theorem dX13_init_526 : decode cX13_init 526 = .ok (.newarray .int, 2) := by decide +kernel
theorem dX13_init_528 : decode cX13_init 528 = .ok (.putfield 193, 3) := by decide +kernel
theorem dX13_init_531 : decode cX13_init 531 = .ok (.aload_n 0, 1) := by decide +kernel
theorem dX13_init_532 : decode cX13_init 532 = .ok (.sipush 14000, 3) := by decide +kernel
theorem dX13_init_535 : decode cX13_init 535 = .ok (.newarray .int, 2) := by decide +kernel
theorem dX13_init_537 : decode cX13_init 537 = .ok (.putfield 196, 3) := by decide +kernel
theorem dX13_init_540 : decode cX13_init 540 = .ok (.aload_n 0, 1) := by decide +kernel
theorem dX13_init_541 : decode cX13_init 541 = .ok (.sipush 14000, 3) := by decide +kernel
theorem dX13_init_544 : decode cX13_init 544 = .ok (.newarray .int, 2) := by decide +kernel
theorem dX13_init_546 : decode cX13_init 546 = .ok (.putfield 199, 3) := by decide +kernel
theorem dX13_init_549 : decode cX13_init 549 = .ok (.aload_n 0, 1) := by decide +kernel
theorem dX13_init_550 : decode cX13_init 550 = .ok (.sipush 14000, 3) := by decide +kernel
theorem dX13_init_553 : decode cX13_init 553 = .ok (.newarray .int, 2) := by decide +kernel
theorem dX13_init_555 : decode cX13_init 555 = .ok (.putfield 202, 3) := by decide +kernel
theorem dX13_init_558 : decode cX13_init 558 = .ok (.aload_n 0, 1) := by decide +kernel
theorem dX13_init_559 : decode cX13_init 559 = .ok (.sipush 14000, 3) := by decide +kernel
theorem dX13_init_562 : decode cX13_init 562 = .ok (.newarray .int, 2) := by decide +kernel
theorem dX13_init_564 : decode cX13_init 564 = .ok (.putfield 205, 3) := by decide +kernel
theorem dX13_init_567 : decode cX13_init 567 = .ok (.aload_n 0, 1) := by decide +kernel
theorem dX13_init_568 : decode cX13_init 568 = .ok (.sipush 14000, 3) := by decide +kernel
theorem dX13_init_571 : decode cX13_init 571 = .ok (.newarray .int, 2) := by decide +kernel
theorem dX13_init_573 : decode cX13_init 573 = .ok (.putfield 208, 3) := by decide +kernel
theorem dX13_init_576 : decode cX13_init 576 = .ok (.aload_n 0, 1) := by decide +kernel
theorem dX13_init_577 : decode cX13_init 577 = .ok (.sipush 14000, 3) := by decide +kernel
theorem dX13_init_580 : decode cX13_init 580 = .ok (.newarray .int, 2) := by decide +kernel
theorem dX13_init_582 : decode cX13_init 582 = .ok (.putfield 211, 3) := by decide +kernel
theorem dX13_init_585 : decode cX13_init 585 = .ok (.aload_n 0, 1) := by decide +kernel
theorem dX13_init_586 : decode cX13_init 586 = .ok (.sipush 14000, 3) := by decide +kernel
theorem dX13_init_589 : decode cX13_init 589 = .ok (.newarray .int, 2) := by decide +kernel
theorem dX13_init_591 : decode cX13_init 591 = .ok (.putfield 214, 3) := by decide +kernel
theorem dX13_init_594 : decode cX13_init 594 = .ok (.aload_n 0, 1) := by decide +kernel
theorem dX13_init_595 : decode cX13_init 595 = .ok (.sipush 14000, 3) := by decide +kernel
theorem dX13_init_598 : decode cX13_init 598 = .ok (.newarray .int, 2) := by decide +kernel
theorem dX13_init_600 : decode cX13_init 600 = .ok (.putfield 217, 3) := by decide +kernel
theorem dX13_init_603 : decode cX13_init 603 = .ok (.aload_n 0, 1) := by decide +kernel
theorem dX13_init_604 : decode cX13_init 604 = .ok (.sipush 6100, 3) := by decide +kernel
theorem dX13_init_607 : decode cX13_init 607 = .ok (.newarray .int, 2) := by decide +kernel
theorem dX13_init_609 : decode cX13_init 609 = .ok (.putfield 220, 3) := by decide +kernel
theorem dX13_init_612 : decode cX13_init 612 = .ok (.aload_n 0, 1) := by decide +kernel
theorem dX13_init_613 : decode cX13_init 613 = .ok (.sipush 6100, 3) := by decide +kernel
theorem dX13_init_616 : decode cX13_init 616 = .ok (.newarray .int, 2) := by decide +kernel
theorem dX13_init_618 : decode cX13_init 618 = .ok (.putfield 223, 3) := by decide +kernel
theorem dX13_init_621 : decode cX13_init 621 = .ok (.aload_n 0, 1) := by decide +kernel
theorem dX13_init_622 : decode cX13_init 622 = .ok (.sipush 6100, 3) := by decide +kernel
theorem dX13_init_625 : decode cX13_init 625 = .ok (.newarray .int, 2) := by decide +kernel
theorem dX13_init_627 : decode cX13_init 627 = .ok (.putfield 226, 3) := by decide +kernel
theorem dX13_init_630 : decode cX13_init 630 = .ok (.aload_n 0, 1) := by decide +kernel
theorem dX13_init_631 : decode cX13_init 631 = .ok (.sipush 6100, 3) := by decide +kernel
theorem dX13_init_634 : decode cX13_init 634 = .ok (.newarray .int, 2) := by decide +kernel
theorem dX13_init_636 : decode cX13_init 636 = .ok (.putfield 229, 3) := by decide +kernel
theorem dX13_init_639 : decode cX13_init 639 = .ok (.aload_n 0, 1) := by decide +kernel
theorem dX13_init_640 : decode cX13_init 640 = .ok (.sipush 6100, 3) := by decide +kernel
theorem dX13_init_643 : decode cX13_init 643 = .ok (.newarray .int, 2) := by decide +kernel
theorem dX13_init_645 : decode cX13_init 645 = .ok (.putfield 232, 3) := by decide +kernel
theorem dX13_init_648 : decode cX13_init 648 = .ok (.aload_n 0, 1) := by decide +kernel
theorem dX13_init_649 : decode cX13_init 649 = .ok (.sipush 6100, 3) := by decide +kernel
theorem dX13_init_652 : decode cX13_init 652 = .ok (.newarray .int, 2) := by decide +kernel
theorem dX13_init_654 : decode cX13_init 654 = .ok (.putfield 235, 3) := by decide +kernel
theorem dX13_init_657 : decode cX13_init 657 = .ok (.aload_n 0, 1) := by decide +kernel
theorem dX13_init_658 : decode cX13_init 658 = .ok (.sipush 6100, 3) := by decide +kernel
theorem dX13_init_661 : decode cX13_init 661 = .ok (.newarray .int, 2) := by decide +kernel
theorem dX13_init_663 : decode cX13_init 663 = .ok (.putfield 238, 3) := by decide +kernel
theorem dX13_init_666 : decode cX13_init 666 = .ok (.aload_n 0, 1) := by decide +kernel
theorem dX13_init_667 : decode cX13_init 667 = .ok (.sipush 6100, 3) := by decide +kernel
theorem dX13_init_670 : decode cX13_init 670 = .ok (.newarray .int, 2) := by decide +kernel
theorem dX13_init_672 : decode cX13_init 672 = .ok (.putfield 241, 3) := by decide +kernel
theorem dX13_init_675 : decode cX13_init 675 = .ok (.aload_n 0, 1) := by decide +kernel
theorem dX13_init_676 : decode cX13_init 676 = .ok (.sipush 6100, 3) := by decide +kernel
theorem dX13_init_679 : decode cX13_init 679 = .ok (.newarray .boolean, 2) := by decide +kernel
theorem dX13_init_681 : decode cX13_init 681 = .ok (.putfield 244, 3) := by decide +kernel
theorem dX13_init_684 : decode cX13_init 684 = .ok (.aload_n 0, 1) := by decide +kernel
theorem dX13_init_685 : decode cX13_init 685 = .ok (.sipush 6100, 3) := by decide +kernel
theorem dX13_init_688 : decode cX13_init 688 = .ok (.newarray .int, 2) := by decide +kernel
theorem dX13_init_690 : decode cX13_init 690 = .ok (.putfield 248, 3) := by decide +kernel
theorem dX13_init_693 : decode cX13_init 693 = .ok (.aload_n 0, 1) := by decide +kernel
theorem dX13_init_694 : decode cX13_init 694 = .ok (.sipush 6100, 3) := by decide +kernel
theorem dX13_init_697 : decode cX13_init 697 = .ok (.newarray .int, 2) := by decide +kernel
theorem dX13_init_699 : decode cX13_init 699 = .ok (.putfield 251, 3) := by decide +kernel
theorem dX13_init_702 : decode cX13_init 702 = .ok (.aload_n 0, 1) := by decide +kernel
theorem dX13_init_703 : decode cX13_init 703 = .ok (.sipush 6100, 3) := by decide +kernel
theorem dX13_init_706 : decode cX13_init 706 = .ok (.newarray .int, 2) := by decide +kernel
theorem dX13_init_708 : decode cX13_init 708 = .ok (.putfield 254, 3) := by decide +kernel
theorem dX13_init_711 : decode cX13_init 711 = .ok (.aload_n 0, 1) := by decide +kernel
theorem dX13_init_712 : decode cX13_init 712 = .ok (.sipush 6100, 3) := by decide +kernel
theorem dX13_init_715 : decode cX13_init 715 = .ok (.newarray .int, 2) := by decide +kernel
theorem dX13_init_717 : decode cX13_init 717 = .ok (.putfield 257, 3) := by decide +kernel
theorem dX13_init_720 : decode cX13_init 720 = .ok (.aload_n 0, 1) := by decide +kernel
theorem dX13_init_721 : decode cX13_init 721 = .ok (.sipush 6100, 3) := by decide +kernel
theorem dX13_init_724 : decode cX13_init 724 = .ok (.newarray .int, 2) := by decide +kernel
theorem dX13_init_726 : decode cX13_init 726 = .ok (.putfield 260, 3) := by decide +kernel
theorem dX13_init_729 : decode cX13_init 729 = .ok (.aload_n 0, 1) := by decide +kernel
theorem dX13_init_730 : decode cX13_init 730 = .ok (.sipush 14000, 3) := by decide +kernel
theorem dX13_init_733 : decode cX13_init 733 = .ok (.newarray .int, 2) := by decide +kernel
theorem dX13_init_735 : decode cX13_init 735 = .ok (.putfield 263, 3) := by decide +kernel
theorem dX13_init_738 : decode cX13_init 738 = .ok (.aload_n 0, 1) := by decide +kernel
theorem dX13_init_739 : decode cX13_init 739 = .ok (.sipush 14000, 3) := by decide +kernel
theorem dX13_init_742 : decode cX13_init 742 = .ok (.newarray .int, 2) := by decide +kernel
theorem dX13_init_744 : decode cX13_init 744 = .ok (.putfield 266, 3) := by decide +kernel
theorem dX13_init_747 : decode cX13_init 747 = .ok (.aload_n 0, 1) := by decide +kernel
theorem dX13_init_748 : decode cX13_init 748 = .ok (.sipush 14000, 3) := by decide +kernel
theorem dX13_init_751 : decode cX13_init 751 = .ok (.newarray .int, 2) := by decide +kernel
theorem dX13_init_753 : decode cX13_init 753 = .ok (.putfield 269, 3) := by decide +kernel
theorem dX13_init_756 : decode cX13_init 756 = .ok (.aload_n 0, 1) := by decide +kernel
theorem dX13_init_757 : decode cX13_init 757 = .ok (.sipush 6100, 3) := by decide +kernel
theorem dX13_init_760 : decode cX13_init 760 = .ok (.newarray .boolean, 2) := by decide +kernel
theorem dX13_init_762 : decode cX13_init 762 = .ok (.putfield 272, 3) := by decide +kernel
theorem dX13_init_765 : decode cX13_init 765 = .ok (.aload_n 0, 1) := by decide +kernel
theorem dX13_init_766 : decode cX13_init 766 = .ok (.sipush 6100, 3) := by decide +kernel
theorem dX13_init_769 : decode cX13_init 769 = .ok (.newarray .int, 2) := by decide +kernel
theorem dX13_init_771 : decode cX13_init 771 = .ok (.putfield 275, 3) := by decide +kernel
theorem dX13_init_774 : decode cX13_init 774 = .ok (.aload_n 0, 1) := by decide +kernel
theorem dX13_init_775 : decode cX13_init 775 = .ok (.sipush 6100, 3) := by decide +kernel
theorem dX13_init_778 : decode cX13_init 778 = .ok (.newarray .int, 2) := by decide +kernel
theorem dX13_init_780 : decode cX13_init 780 = .ok (.putfield 278, 3) := by decide +kernel
theorem dX13_init_783 : decode cX13_init 783 = .ok (.aload_n 0, 1) := by decide +kernel
theorem dX13_init_784 : decode cX13_init 784 = .ok (.sipush 6100, 3) := by decide +kernel
theorem dX13_init_787 : decode cX13_init 787 = .ok (.newarray .boolean, 2) := by decide +kernel
theorem dX13_init_789 : decode cX13_init 789 = .ok (.putfield 281, 3) := by decide +kernel
theorem dX13_init_792 : decode cX13_init 792 = .ok (.aload_n 0, 1) := by decide +kernel
theorem dX13_init_793 : decode cX13_init 793 = .ok (.sipush 14000, 3) := by decide +kernel
theorem dX13_init_796 : decode cX13_init 796 = .ok (.newarray .long, 2) := by decide +kernel
theorem dX13_init_798 : decode cX13_init 798 = .ok (.putfield 284, 3) := by decide +kernel
theorem dX13_init_801 : decode cX13_init 801 = .ok (.aload_n 0, 1) := by decide +kernel
theorem dX13_init_802 : decode cX13_init 802 = .ok (.sipush 14000, 3) := by decide +kernel
theorem dX13_init_805 : decode cX13_init 805 = .ok (.newarray .int, 2) := by decide +kernel
theorem dX13_init_807 : decode cX13_init 807 = .ok (.putfield 288, 3) := by decide +kernel
theorem dX13_init_810 : decode cX13_init 810 = .ok (.aload_n 0, 1) := by decide +kernel
theorem dX13_init_811 : decode cX13_init 811 = .ok (.sipush 14000, 3) := by decide +kernel
theorem dX13_init_814 : decode cX13_init 814 = .ok (.newarray .int, 2) := by decide +kernel
theorem dX13_init_816 : decode cX13_init 816 = .ok (.putfield 291, 3) := by decide +kernel
theorem dX13_init_819 : decode cX13_init 819 = .ok (.aload_n 0, 1) := by decide +kernel
theorem dX13_init_820 : decode cX13_init 820 = .ok (.ldc_w 294, 3) := by decide +kernel
theorem dX13_init_823 : decode cX13_init 823 = .ok (.newarray .int, 2) := by decide +kernel
theorem dX13_init_825 : decode cX13_init 825 = .ok (.putfield 295, 3) := by decide +kernel
theorem dX13_init_828 : decode cX13_init 828 = .ok (.aload_n 0, 1) := by decide +kernel
theorem dX13_init_829 : decode cX13_init 829 = .ok (.ldc_w 294, 3) := by decide +kernel
theorem dX13_init_832 : decode cX13_init 832 = .ok (.newarray .int, 2) := by decide +kernel
theorem dX13_init_834 : decode cX13_init 834 = .ok (.putfield 298, 3) := by decide +kernel
theorem dX13_init_837 : decode cX13_init 837 = .ok (.aload_n 0, 1) := by decide +kernel
theorem dX13_init_838 : decode cX13_init 838 = .ok (.sipush 14000, 3) := by decide +kernel
theorem dX13_init_841 : decode cX13_init 841 = .ok (.newarray .int, 2) := by decide +kernel
theorem dX13_init_843 : decode cX13_init 843 = .ok (.putfield 301, 3) := by decide +kernel
theorem dX13_init_846 : decode cX13_init 846 = .ok (.aload_n 0, 1) := by decide +kernel
theorem dX13_init_847 : decode cX13_init 847 = .ok (.sipush 14000, 3) := by decide +kernel
theorem dX13_init_850 : decode cX13_init 850 = .ok (.newarray .int, 2) := by decide +kernel
theorem dX13_init_852 : decode cX13_init 852 = .ok (.putfield 304, 3) := by decide +kernel
theorem dX13_init_855 : decode cX13_init 855 = .ok (.aload_n 0, 1) := by decide +kernel
theorem dX13_init_856 : decode cX13_init 856 = .ok (.sipush 14000, 3) := by decide +kernel
theorem dX13_init_859 : decode cX13_init 859 = .ok (.newarray .boolean, 2) := by decide +kernel
theorem dX13_init_861 : decode cX13_init 861 = .ok (.putfield 307, 3) := by decide +kernel
theorem dX13_init_864 : decode cX13_init 864 = .ok (.aload_n 0, 1) := by decide +kernel
theorem dX13_init_865 : decode cX13_init 865 = .ok (.iconst 4, 1) := by decide +kernel
theorem dX13_init_866 : decode cX13_init 866 = .ok (.newarray .long, 2) := by decide +kernel
theorem dX13_init_868 : decode cX13_init 868 = .ok (.putfield 310, 3) := by decide +kernel
theorem dX13_init_871 : decode cX13_init 871 = .ok (.aload_n 0, 1) := by decide +kernel
theorem dX13_init_872 : decode cX13_init 872 = .ok (.bipush 64, 2) := by decide +kernel
theorem dX13_init_874 : decode cX13_init 874 = .ok (.newarray .int, 2) := by decide +kernel
theorem dX13_init_876 : decode cX13_init 876 = .ok (.putfield 313, 3) := by decide +kernel
theorem dX13_init_879 : decode cX13_init 879 = .ok (.aload_n 0, 1) := by decide +kernel
theorem dX13_init_880 : decode cX13_init 880 = .ok (.sipush 6100, 3) := by decide +kernel
theorem dX13_init_883 : decode cX13_init 883 = .ok (.newarray .boolean, 2) := by decide +kernel
theorem dX13_init_885 : decode cX13_init 885 = .ok (.putfield 316, 3) := by decide +kernel
theorem dX13_init_888 : decode cX13_init 888 = .ok (.aload_n 0, 1) := by decide +kernel
theorem dX13_init_889 : decode cX13_init 889 = .ok (.sipush 14000, 3) := by decide +kernel
theorem dX13_init_892 : decode cX13_init 892 = .ok (.newarray .int, 2) := by decide +kernel
theorem dX13_init_894 : decode cX13_init 894 = .ok (.putfield 319, 3) := by decide +kernel
theorem dX13_init_897 : decode cX13_init 897 = .ok (.aload_n 0, 1) := by decide +kernel
theorem dX13_init_898 : decode cX13_init 898 = .ok (.sipush 12000, 3) := by decide +kernel
theorem dX13_init_901 : decode cX13_init 901 = .ok (.newarray .long, 2) := by decide +kernel
theorem dX13_init_903 : decode cX13_init 903 = .ok (.putfield 322, 3) := by decide +kernel
theorem dX13_init_906 : decode cX13_init 906 = .ok (.aload_n 0, 1) := by decide +kernel
theorem dX13_init_907 : decode cX13_init 907 = .ok (.bipush 8, 2) := by decide +kernel
theorem dX13_init_909 : decode cX13_init 909 = .ok (.newarray .int, 2) := by decide +kernel
theorem dX13_init_911 : decode cX13_init 911 = .ok (.putfield 325, 3) := by decide +kernel
theorem dX13_init_914 : decode cX13_init 914 = .ok (.aload_n 0, 1) := by decide +kernel
theorem dX13_init_915 : decode cX13_init 915 = .ok (.bipush 8, 2) := by decide +kernel
theorem dX13_init_917 : decode cX13_init 917 = .ok (.newarray .boolean, 2) := by decide +kernel
theorem dX13_init_919 : decode cX13_init 919 = .ok (.putfield 328, 3) := by decide +kernel
theorem dX13_init_922 : decode cX13_init 922 = .ok (.aload_n 0, 1) := by decide +kernel
theorem dX13_init_923 : decode cX13_init 923 = .ok (.bipush 32, 2) := by decide +kernel
theorem dX13_init_925 : decode cX13_init 925 = .ok (.newarray .long, 2) := by decide +kernel
theorem dX13_init_927 : decode cX13_init 927 = .ok (.putfield 331, 3) := by decide +kernel
theorem dX13_init_930 : decode cX13_init 930 = .ok (.aload_n 0, 1) := by decide +kernel
theorem dX13_init_931 : decode cX13_init 931 = .ok (.sipush 1600, 3) := by decide +kernel
theorem dX13_init_934 : decode cX13_init 934 = .ok (.newarray .int, 2) := by decide +kernel
theorem dX13_init_936 : decode cX13_init 936 = .ok (.putfield 334, 3) := by decide +kernel
theorem dX13_init_939 : decode cX13_init 939 = .ok (.aload_n 0, 1) := by decide +kernel
theorem dX13_init_940 : decode cX13_init 940 = .ok (.sipush 6400, 3) := by decide +kernel
theorem dX13_init_943 : decode cX13_init 943 = .ok (.newarray .boolean, 2) := by decide +kernel
theorem dX13_init_945 : decode cX13_init 945 = .ok (.putfield 337, 3) := by decide +kernel
theorem dX13_init_948 : decode cX13_init 948 = .ok (.aload_n 0, 1) := by decide +kernel
theorem dX13_init_949 : decode cX13_init 949 = .ok (.sipush 25600, 3) := by decide +kernel
theorem dX13_init_952 : decode cX13_init 952 = .ok (.newarray .long, 2) := by decide +kernel
theorem dX13_init_954 : decode cX13_init 954 = .ok (.putfield 340, 3) := by decide +kernel
theorem dX13_init_957 : decode cX13_init 957 = .ok (.aload_n 0, 1) := by decide +kernel
theorem dX13_init_958 : decode cX13_init 958 = .ok (.sipush 6400, 3) := by decide +kernel
theorem dX13_init_961 : decode cX13_init 961 = .ok (.newarray .boolean, 2) := by decide +kernel
theorem dX13_init_963 : decode cX13_init 963 = .ok (.putfield 343, 3) := by decide +kernel
theorem dX13_init_966 : decode cX13_init 966 = .ok (.aload_n 0, 1) := by decide +kernel
theorem dX13_init_967 : decode cX13_init 967 = .ok (.sipush 25600, 3) := by decide +kernel
theorem dX13_init_970 : decode cX13_init 970 = .ok (.newarray .long, 2) := by decide +kernel
theorem dX13_init_972 : decode cX13_init 972 = .ok (.putfield 346, 3) := by decide +kernel
theorem dX13_init_975 : decode cX13_init 975 = .ok (.aload_n 0, 1) := by decide +kernel
theorem dX13_init_976 : decode cX13_init 976 = .ok (.ldc_w 349, 3) := by decide +kernel
theorem dX13_init_979 : decode cX13_init 979 = .ok (.newarray .int, 2) := by decide +kernel
theorem dX13_init_981 : decode cX13_init 981 = .ok (.putfield 350, 3) := by decide +kernel
theorem dX13_init_984 : decode cX13_init 984 = .ok (.aload_n 0, 1) := by decide +kernel
theorem dX13_init_985 : decode cX13_init 985 = .ok (.ldc_w 349, 3) := by decide +kernel
theorem dX13_init_988 : decode cX13_init 988 = .ok (.newarray .int, 2) := by decide +kernel
theorem dX13_init_990 : decode cX13_init 990 = .ok (.putfield 353, 3) := by decide +kernel
theorem dX13_init_993 : decode cX13_init 993 = .ok (.aload_n 0, 1) := by decide +kernel
theorem dX13_init_994 : decode cX13_init 994 = .ok (.ldc_w 349, 3) := by decide +kernel
theorem dX13_init_997 : decode cX13_init 997 = .ok (.newarray .int, 2) := by decide +kernel
theorem dX13_init_999 : decode cX13_init 999 = .ok (.putfield 356, 3) := by decide +kernel
theorem dX13_init_1002 : decode cX13_init 1002 = .ok (.aload_n 0, 1) := by decide +kernel
theorem dX13_init_1003 : decode cX13_init 1003 = .ok (.sipush 2048, 3) := by decide +kernel
theorem dX13_init_1006 : decode cX13_init 1006 = .ok (.newarray .int, 2) := by decide +kernel
theorem dX13_init_1008 : decode cX13_init 1008 = .ok (.putfield 359, 3) := by decide +kernel
theorem dX13_init_1011 : decode cX13_init 1011 = .ok (.aload_n 0, 1) := by decide +kernel
theorem dX13_init_1012 : decode cX13_init 1012 = .ok (.sipush 2048, 3) := by decide +kernel
theorem dX13_init_1015 : decode cX13_init 1015 = .ok (.newarray .int, 2) := by decide +kernel
theorem dX13_init_1017 : decode cX13_init 1017 = .ok (.putfield 362, 3) := by decide +kernel
theorem dX13_init_1020 : decode cX13_init 1020 = .ok (.aload_n 0, 1) := by decide +kernel
theorem dX13_init_1021 : decode cX13_init 1021 = .ok (.bipush 32, 2) := by decide +kernel
theorem dX13_init_1023 : decode cX13_init 1023 = .ok (.anewarray 365, 3) := by decide +kernel
theorem dX13_init_1026 : decode cX13_init 1026 = .ok (.putfield 366, 3) := by decide +kernel
theorem dX13_init_1029 : decode cX13_init 1029 = .ok (.aload_n 0, 1) := by decide +kernel
theorem dX13_init_1030 : decode cX13_init 1030 = .ok (.sipush 2048, 3) := by decide +kernel
theorem dX13_init_1033 : decode cX13_init 1033 = .ok (.newarray .int, 2) := by decide +kernel
theorem dX13_init_1035 : decode cX13_init 1035 = .ok (.putfield 370, 3) := by decide +kernel
theorem dX13_init_1038 : decode cX13_init 1038 = .ok (.aload_n 0, 1) := by decide +kernel
theorem dX13_init_1039 : decode cX13_init 1039 = .ok (.sipush 2048, 3) := by decide +kernel
theorem dX13_init_1042 : decode cX13_init 1042 = .ok (.newarray .int, 2) := by decide +kernel
theorem dX13_init_1044 : decode cX13_init 1044 = .ok (.putfield 373, 3) := by decide +kernel
theorem dX13_init_1047 : decode cX13_init 1047 = .ok (.aload_n 0, 1) := by decide +kernel
theorem dX13_init_1048 : decode cX13_init 1048 = .ok (.sipush 2000, 3) := by decide +kernel
theorem dX13_init_1051 : decode cX13_init 1051 = .ok (.newarray .int, 2) := by decide +kernel
theorem dX13_init_1053 : decode cX13_init 1053 = .ok (.putfield 376, 3) := by decide +kernel
theorem dX13_init_1056 : decode cX13_init 1056 = .ok (.aload_n 0, 1) := by decide +kernel
theorem dX13_init_1057 : decode cX13_init 1057 = .ok (.sipush 500, 3) := by decide +kernel
theorem dX13_init_1060 : decode cX13_init 1060 = .ok (.newarray .int, 2) := by decide +kernel
theorem dX13_init_1062 : decode cX13_init 1062 = .ok (.putfield 379, 3) := by decide +kernel
theorem dX13_init_1065 : decode cX13_init 1065 = .ok (.aload_n 0, 1) := by decide +kernel
theorem dX13_init_1066 : decode cX13_init 1066 = .ok (.sipush 448, 3) := by decide +kernel
theorem dX13_init_1069 : decode cX13_init 1069 = .ok (.newarray .int, 2) := by decide +kernel
theorem dX13_init_1071 : decode cX13_init 1071 = .ok (.putfield 382, 3) := by decide +kernel
theorem dX13_init_1074 : decode cX13_init 1074 = .ok (.aload_n 0, 1) := by decide +kernel
theorem dX13_init_1075 : decode cX13_init 1075 = .ok (.bipush 82, 2) := by decide +kernel
theorem dX13_init_1077 : decode cX13_init 1077 = .ok (.newarray .int, 2) := by decide +kernel
theorem dX13_init_1079 : decode cX13_init 1079 = .ok (.putfield 385, 3) := by decide +kernel
theorem dX13_init_1082 : decode cX13_init 1082 = .ok (.aload_n 0, 1) := by decide +kernel
theorem dX13_init_1083 : decode cX13_init 1083 = .ok (.bipush 82, 2) := by decide +kernel
theorem dX13_init_1085 : decode cX13_init 1085 = .ok (.newarray .boolean, 2) := by decide +kernel
theorem dX13_init_1087 : decode cX13_init 1087 = .ok (.putfield 388, 3) := by decide +kernel
theorem dX13_init_1090 : decode cX13_init 1090 = .ok (.aload_n 0, 1) := by decide +kernel
theorem dX13_init_1091 : decode cX13_init 1091 = .ok (.bipush 82, 2) := by decide +kernel
theorem dX13_init_1093 : decode cX13_init 1093 = .ok (.newarray .int, 2) := by decide +kernel
theorem dX13_init_1095 : decode cX13_init 1095 = .ok (.putfield 391, 3) := by decide +kernel
theorem dX13_init_1098 : decode cX13_init 1098 = .ok (.aload_n 0, 1) := by decide +kernel
theorem dX13_init_1099 : decode cX13_init 1099 = .ok (.bipush 82, 2) := by decide +kernel
theorem dX13_init_1101 : decode cX13_init 1101 = .ok (.newarray .int, 2) := by decide +kernel
theorem dX13_init_1103 : decode cX13_init 1103 = .ok (.putfield 394, 3) := by decide +kernel
theorem dX13_init_1106 : decode cX13_init 1106 = .ok (.aload_n 0, 1) := by decide +kernel
theorem dX13_init_1107 : decode cX13_init 1107 = .ok (.bipush 82, 2) := by decide +kernel
theorem dX13_init_1109 : decode cX13_init 1109 = .ok (.newarray .int, 2) := by decide +kernel
theorem dX13_init_1111 : decode cX13_init 1111 = .ok (.putfield 397, 3) := by decide +kernel
theorem dX13_init_1114 : decode cX13_init 1114 = .ok (.aload_n 0, 1) := by decide +kernel
theorem dX13_init_1115 : decode cX13_init 1115 = .ok (.bipush 82, 2) := by decide +kernel
theorem dX13_init_1117 : decode cX13_init 1117 = .ok (.newarray .int, 2) := by decide +kernel
theorem dX13_init_1119 : decode cX13_init 1119 = .ok (.putfield 400, 3) := by decide +kernel
theorem dX13_init_1122 : decode cX13_init 1122 = .ok (.aload_n 0, 1) := by decide +kernel
theorem dX13_init_1123 : decode cX13_init 1123 = .ok (.bipush 82, 2) := by decide +kernel
theorem dX13_init_1125 : decode cX13_init 1125 = .ok (.newarray .int, 2) := by decide +kernel
theorem dX13_init_1127 : decode cX13_init 1127 = .ok (.putfield 403, 3) := by decide +kernel
theorem dX13_init_1130 : decode cX13_init 1130 = .ok (.aload_n 0, 1) := by decide +kernel
theorem dX13_init_1131 : decode cX13_init 1131 = .ok (.bipush 82, 2) := by decide +kernel
theorem dX13_init_1133 : decode cX13_init 1133 = .ok (.newarray .int, 2) := by decide +kernel
theorem dX13_init_1135 : decode cX13_init 1135 = .ok (.putfield 406, 3) := by decide +kernel
theorem dX13_init_1138 : decode cX13_init 1138 = .ok (.aload_n 0, 1) := by decide +kernel
theorem dX13_init_1139 : decode cX13_init 1139 = .ok (.bipush 82, 2) := by decide +kernel
theorem dX13_init_1141 : decode cX13_init 1141 = .ok (.newarray .int, 2) := by decide +kernel
theorem dX13_init_1143 : decode cX13_init 1143 = .ok (.putfield 409, 3) := by decide +kernel
theorem dX13_init_1146 : decode cX13_init 1146 = .ok (.aload_n 0, 1) := by decide +kernel
theorem dX13_init_1147 : decode cX13_init 1147 = .ok (.bipush 82, 2) := by decide +kernel
theorem dX13_init_1149 : decode cX13_init 1149 = .ok (.newarray .int, 2) := by decide +kernel
theorem dX13_init_1151 : decode cX13_init 1151 = .ok (.putfield 412, 3) := by decide +kernel
theorem dX13_init_1154 : decode cX13_init 1154 = .ok (.aload_n 0, 1) := by decide +kernel
theorem dX13_init_1155 : decode cX13_init 1155 = .ok (.bipush 82, 2) := by decide +kernel
theorem dX13_init_1157 : decode cX13_init 1157 = .ok (.newarray .int, 2) := by decide +kernel
theorem dX13_init_1159 : decode cX13_init 1159 = .ok (.putfield 415, 3) := by decide +kernel
theorem dX13_init_1162 : decode cX13_init 1162 = .ok (.aload_n 0, 1) := by decide +kernel
theorem dX13_init_1163 : decode cX13_init 1163 = .ok (.bipush 82, 2) := by decide +kernel
theorem dX13_init_1165 : decode cX13_init 1165 = .ok (.newarray .int, 2) := by decide +kernel
theorem dX13_init_1167 : decode cX13_init 1167 = .ok (.putfield 418, 3) := by decide +kernel
theorem dX13_init_1170 : decode cX13_init 1170 = .ok (.aload_n 0, 1) := by decide +kernel
theorem dX13_init_1171 : decode cX13_init 1171 = .ok (.bipush 82, 2) := by decide +kernel
theorem dX13_init_1173 : decode cX13_init 1173 = .ok (.newarray .int, 2) := by decide +kernel
theorem dX13_init_1175 : decode cX13_init 1175 = .ok (.putfield 421, 3) := by decide +kernel
theorem dX13_init_1178 : decode cX13_init 1178 = .ok (.aload_n 0, 1) := by decide +kernel
theorem dX13_init_1179 : decode cX13_init 1179 = .ok (.bipush 82, 2) := by decide +kernel
theorem dX13_init_1181 : decode cX13_init 1181 = .ok (.newarray .int, 2) := by decide +kernel
theorem dX13_init_1183 : decode cX13_init 1183 = .ok (.putfield 424, 3) := by decide +kernel
theorem dX13_init_1186 : decode cX13_init 1186 = .ok (.aload_n 0, 1) := by decide +kernel
theorem dX13_init_1187 : decode cX13_init 1187 = .ok (.bipush 82, 2) := by decide +kernel
theorem dX13_init_1189 : decode cX13_init 1189 = .ok (.newarray .int, 2) := by decide +kernel
theorem dX13_init_1191 : decode cX13_init 1191 = .ok (.putfield 427, 3) := by decide +kernel
theorem dX13_init_1194 : decode cX13_init 1194 = .ok (.aload_n 0, 1) := by decide +kernel
theorem dX13_init_1195 : decode cX13_init 1195 = .ok (.bipush 82, 2) := by decide +kernel
theorem dX13_init_1197 : decode cX13_init 1197 = .ok (.newarray .boolean, 2) := by decide +kernel
theorem dX13_init_1199 : decode cX13_init 1199 = .ok (.putfield 430, 3) := by decide +kernel
theorem dX13_init_1202 : decode cX13_init 1202 = .ok (.aload_n 0, 1) := by decide +kernel
theorem dX13_init_1203 : decode cX13_init 1203 = .ok (.bipush 82, 2) := by decide +kernel
theorem dX13_init_1205 : decode cX13_init 1205 = .ok (.newarray .int, 2) := by decide +kernel
theorem dX13_init_1207 : decode cX13_init 1207 = .ok (.putfield 433, 3) := by decide +kernel
theorem dX13_init_1210 : decode cX13_init 1210 = .ok (.aload_n 0, 1) := by decide +kernel
theorem dX13_init_1211 : decode cX13_init 1211 = .ok (.bipush 64, 2) := by decide +kernel
theorem dX13_init_1213 : decode cX13_init 1213 = .ok (.anewarray 365, 3) := by decide +kernel
theorem dX13_init_1216 : decode cX13_init 1216 = .ok (.putfield 436, 3) := by decide +kernel
theorem dX13_init_1219 : decode cX13_init 1219 = .ok (.aload_n 0, 1) := by decide +kernel
theorem dX13_init_1220 : decode cX13_init 1220 = .ok (.sipush 256, 3) := by decide +kernel
theorem dX13_init_1223 : decode cX13_init 1223 = .ok (.newarray .int, 2) := by decide +kernel
theorem dX13_init_1225 : decode cX13_init 1225 = .ok (.putfield 439, 3) := by decide +kernel
theorem dX13_init_1228 : decode cX13_init 1228 = .ok (.aload_n 0, 1) := by decide +kernel
theorem dX13_init_1229 : decode cX13_init 1229 = .ok (.sipush 256, 3) := by decide +kernel
theorem dX13_init_1232 : decode cX13_init 1232 = .ok (.newarray .int, 2) := by decide +kernel
theorem dX13_init_1234 : decode cX13_init 1234 = .ok (.putfield 442, 3) := by decide +kernel
theorem dX13_init_1237 : decode cX13_init 1237 = .ok (.aload_n 0, 1) := by decide +kernel
theorem dX13_init_1238 : decode cX13_init 1238 = .ok (.sipush 512, 3) := by decide +kernel
theorem dX13_init_1241 : decode cX13_init 1241 = .ok (.newarray .int, 2) := by decide +kernel
theorem dX13_init_1243 : decode cX13_init 1243 = .ok (.putfield 445, 3) := by decide +kernel
theorem dX13_init_1246 : decode cX13_init 1246 = .ok (.aload_n 0, 1) := by decide +kernel
theorem dX13_init_1247 : decode cX13_init 1247 = .ok (.sipush 512, 3) := by decide +kernel
theorem dX13_init_1250 : decode cX13_init 1250 = .ok (.newarray .int, 2) := by decide +kernel
theorem dX13_init_1252 : decode cX13_init 1252 = .ok (.putfield 448, 3) := by decide +kernel
theorem dX13_init_1255 : decode cX13_init 1255 = .ok (.return_, 1) := by decide +kernel
end
section
/-! names of methods -/
abbrev cX13_thrown : ByteArray := prog_14_method_2_code
def yX13_thrown : MethodName := ⟨RX13, "thrown", "()I"⟩
abbrev cX13_back : ByteArray := prog_14_method_5_code
def yX13_back : MethodName := ⟨RX13, "back", "(I)I"⟩
abbrev cX13_state : ByteArray := prog_14_method_260_code
def yX13_state : MethodName := ⟨RX13, "state", "()I"⟩
abbrev cX13_begin : ByteArray := prog_14_method_261_code
def yX13_begin : MethodName := ⟨RX13, "begin", "(I)V"⟩
abbrev cX13_run : ByteArray := prog_14_method_262_code
def yX13_run : MethodName := ⟨RX13, "run", "(I)I"⟩
abbrev cX13_key : ByteArray := prog_14_method_263_code
def yX13_key : MethodName := ⟨RX13, "key", "(I)Z"⟩
abbrev cX13_count : ByteArray := prog_14_method_264_code
def yX13_count : MethodName := ⟨RX13, "count", "(I)I"⟩
abbrev cX13_output : ByteArray := prog_14_method_265_code
def yX13_output : MethodName := ⟨RX13, "output", "(I)I"⟩
abbrev cX13_process_ : ByteArray := prog_14_method_266_code
def yX13_process_ : MethodName := ⟨RX13, "process", "(II)I"⟩
abbrev cX13_cell : ByteArray := prog_14_method_267_code
def yX13_cell : MethodName := ⟨RX13, "cell", "(I)I"⟩
abbrev cX13_meeting : ByteArray := prog_14_method_268_code
def yX13_meeting : MethodName := ⟨RX13, "meeting", "(II)I"⟩
abbrev cX13_clashes : ByteArray := prog_14_method_269_code
def yX13_clashes : MethodName := ⟨RX13, "clashes", "()I"⟩
end
section
/-! Own rows: arrays that are made and put into a field, the object's fields known by a list of what matters -/
/-- what is known of an object's fields: how many, and some of them -/
def kJ (N : Nat) (L : List (Nat × Value)) (fs : List Value) : Prop := fs.length = N ∧ ∀ x ∈ L, fs[x.1]? = some x.2
theorem kJ_set {N : Nat} {L : List (Nat × Value)} {fs : List Value} (h : kJ N L fs) (k : Nat) (v : Value) (hk : (L.map Prod.fst).contains k = false) : kJ N L (fs.set k v) := by
  refine ⟨by rw [List.length_set]; exact h.1, fun x hx => ?_⟩
  have h1 : x.1 ≠ k := by
    intro e
    have : (L.map Prod.fst).contains k = true := by
      rw [List.contains_iff_mem]
      exact List.mem_map.mpr ⟨x, hx, e⟩
    rw [hk] at this
    cases this
  rw [List.getElem?_set_ne (Ne.symm h1)]
  exact h.2 x hx
theorem kJ_add {N : Nat} {L : List (Nat × Value)} {fs : List Value} (h : kJ N L fs) (k : Nat) (v : Value) (hk : (L.map Prod.fst).contains k = false) (hl : k < N) : kJ N ((k, v) :: L) (fs.set k v) := by
  have h2 := kJ_set h k v hk
  refine ⟨h2.1, fun x hx => ?_⟩
  rcases List.mem_cons.mp hx with e | hx
  · subst e
    show (fs.set k v)[k]? = some v
    rw [List.getElem?_set_self (by rw [h.1]; exact hl)]
  · exact h2.2 x hx
theorem kJ_up {N : Nat} {L : List (Nat × Value)} {fs : List Value} (h : kJ N L fs) (k : Nat) (v : Value) (L2 : List (Nat × Value)) (hL : ∀ x ∈ L2, x = (k, v) ∨ (x ∈ L ∧ x.1 ≠ k)) (hl : k < N) : kJ N L2 (fs.set k v) := by
  refine ⟨by rw [List.length_set]; exact h.1, fun x hx => ?_⟩
  rcases hL x hx with e | ⟨h1, h2⟩
  · subst e
    show (fs.set k v)[k]? = some v
    rw [List.getElem?_set_self (by rw [h.1]; exact hl)]
  · rw [List.getElem?_set_ne (Ne.symm h2)]
    exact h.2 x h1
theorem kJ_at {N : Nat} {L : List (Nat × Value)} {fs : List Value} (h : kJ N L fs) (i : Nat) {k : Nat} {v : Value} (hi : L[i]? = some (k, v)) : fs[k]? = some v := h.2 _ (List.mem_of_getElem? hi)
theorem kJ_sub {N : Nat} {L L2 : List (Nat × Value)} {fs : List Value} (h : kJ N L fs) (hs : ∀ x ∈ L2, x ∈ L) : kJ N L2 fs := ⟨h.1, fun x hx => h.2 x (hs x hx)⟩
section KA
variable {p : Program} {l : Launch} {e : Env} {R : Room} {s : State} {m : MethodId} {args : Array Value} {below : List Frame} {meth : Method} {c : Code} {H : Heap} {locs : List Loc} {cells slots : Nat} {Q : State → Prop}
variable {cc : ByteArray} {pc : Nat} {ls : Array Slot} {rest : List Value} {D : va_G} {cl : List vw_C} {A : Nat → Prop} {a : Nat} {tys : List (ClassId × FieldType)} {ws : va_W} {H0 : Heap}
/-- newarray, the array itself forgotten -/
theorem k_newa (hexec : p.tables.exec = Jvm.exec) (hb : c.code = cc) {atype : ArrayType} (harr : (Cond.arrayClass (newarray.typeOf atype)).before args s = true) (hP : va_P D cl ws H) (hD : va_D A ws) (hS : va_S A H0 H locs)
    {n : Int32} {N' : Nat} (hn : ¬ n < 0) (hN : n.toNatClampNeg = N') (hbytes : N' * componentBytes (newarray.typeOf atype) ≤ 536870912) (hcells : cells + 1 ≤ R.cells) (hslots : slots + N' ≤ R.slots) (hdg : decode cc pc = .ok (.newarray atype, 2))
    (kk : ∀ (q : Nat) (H1 : Heap), va_P D cl ws H1 → va_D A ws → va_S A H0 H1 locs → W p l e R s m args below meth c H1 locs (cells + 1) (slots + N') Q (F0 m (pc + 2) ls (.ref q :: rest))) : W p l e R s m args below meth c H locs cells slots Q (F0 m pc ls (.int n :: rest)) := by
  refine va_newaK hexec hb harr rfl hdg rfl hn hN hbytes hcells hslots rfl fun H1 cA e1 z1 o1 hAr hNm => ?_
  have hk : ∀ (k : Nat) (x : Nat × va_E), ws[k]? = some x → H1[x.1]? = H[x.1]? := fun k x hx => o1 x.1 ((hP k x hx).lt)
  exact kk H.size H1 (hP.kept hk) hD ⟨Nat.le_trans hS.1 (by omega), fun x h1 h2 => (o1 x (Nat.lt_of_lt_of_le h1 hS.1)).trans (hS.2.1 x h1 h2), hS.2.2⟩
/-- anewarray of arrays, the array itself forgotten -/
theorem k_newq (hexec : p.tables.exec = Jvm.exec) (hb : c.code = cc) {own : String} {index : Nat} {t : FieldType} (hown : s.vm.findClass own = some m.cls) (hclink : (Cond.classLink own index (FieldType.array t).toString).before args s = true) (hover : (Cond.arrayOver (.array t)).before args s = true) (hP : va_P D cl ws H) (hD : va_D A ws) (hS : va_S A H0 H locs)
    {n : Int32} {N' : Nat} (hn : ¬ n < 0) (hN : n.toNatClampNeg = N') (hbytes : N' * 4 ≤ 536870912) (hcells : cells + 1 ≤ R.cells) (hslots : slots + N' ≤ R.slots) (hdg : decode cc pc = .ok (.anewarray index, 3))
    (kk : ∀ (q : Nat) (H1 : Heap), va_P D cl ws H1 → va_D A ws → va_S A H0 H1 locs → W p l e R s m args below meth c H1 locs (cells + 1) (slots + N') Q (F0 m (pc + 3) ls (.ref q :: rest))) : W p l e R s m args below meth c H locs cells slots Q (F0 m pc ls (.int n :: rest)) := by
  subst hN
  refine W.anewA hexec hb hown hclink hover rfl hdg rfl hn hbytes hcells hslots fun cA kA comp f1 f2 f3 f4 => ?_
  generalize hH1 : H.push ({ cls := cA, slots := Array.replicate n.toNatClampNeg .null, vm := .none } : Cell) = H1
  have z1 : H1.size = H.size + 1 := by rw [← hH1, Array.size_push]
  have o1 : ∀ q : Nat, q < H.size → H1[q]? = H[q]? := fun q hq => by rw [← hH1, Array.getElem?_push, if_neg (Nat.ne_of_lt hq)]
  have hk : ∀ (k : Nat) (x : Nat × va_E), ws[k]? = some x → H1[x.1]? = H[x.1]? := fun k x hx => o1 x.1 ((hP k x hx).lt)
  exact kk H.size H1 (hP.kept hk) hD ⟨Nat.le_trans hS.1 (by omega), fun x h1 h2 => (o1 x (Nat.lt_of_lt_of_le h1 hS.1)).trans (hS.2.1 x h1 h2), hS.2.2⟩
/-- newarray; putfield of a final field of this constructor's object, the first of the world; the array is forgotten -/
theorem k_arrF {N0 : Nat} {L : List (Nat × Value)} {fs : List Value} {wr : va_W} {ci : Nat} {C : String} {T : u_T} {N index : Nat} {Ts : List Cond} (hts : ∀ w ∈ Ts, w.before args s = true) (hin : ∀ w ∈ u_ws C T N, w ∈ Ts) (ty0 : Nat → FieldType) (hty : ∀ k, k < N → parseFieldDescriptor (T k).2.2.1 = some (ty0 k)) (hnm : ∀ a, a < N → ∀ b, b < N → a ≠ b → (T a).2.1 ≠ (T b).2.1)
    (hexec : p.tables.exec = Jvm.exec) (hb : c.code = cc) (hown : s.vm.findClass C = some m.cls) (hin2 : meth.name = "<init>") (hK : va_K D cl tys s) (hc : cl[ci]? = some (C, T, N)) (hJ : kJ N0 L fs) (hP : va_P D cl ((a, .inr (ci, fs)) :: wr) H) (hD : va_D A ((a, .inr (ci, fs)) :: wr)) (hS : va_S A H0 H locs)
    {atype : ArrayType} (harr : (Cond.arrayClass (newarray.typeOf atype)).before args s = true) (k : Nat) (hk : k < N) (hkl : k < N0) (hkL : (L.map Prod.fst).contains k = false) (hlink : (Cond.fieldLink C index C (T k).2.1 (T k).2.2.1).before args s = true) (hfin : (T k).2.2.2 = true) (hdecl : (T k).1 = C) {ty : FieldType} (hd : parseFieldDescriptor (T k).2.2.1 = some (.array ty))
    {n : Int32} {N' : Nat} (hn : ¬ n < 0) (hN : n.toNatClampNeg = N') (hbytes : N' * componentBytes (newarray.typeOf atype) ≤ 536870912) (hcells : cells + 1 ≤ R.cells) (hslots : slots + N' ≤ R.slots) (hdg : decode cc pc = .ok (.newarray atype, 2)) (hdg2 : decode cc (pc + 2) = .ok (.putfield index, 3))
    (kk : ∀ (H1 : Heap) (locs1 : List Loc) (fs1 : List Value), kJ N0 L fs1 → va_P D cl ((a, .inr (ci, fs1)) :: wr) H1 → va_D A ((a, .inr (ci, fs1)) :: wr) → va_S A H0 H1 locs1 → W p l e R s m args below meth c H1 locs1 (cells + 1) (slots + N') Q (F0 m (pc + 2 + 3) ls rest)) : W p l e R s m args below meth c H locs cells slots Q (F0 m pc ls (.int n :: .ref a :: rest)) := by
  refine k_newa hexec hb harr hP hD hS hn hN hbytes hcells hslots hdg (fun q H1 hP hD hS => ?_)
  refine va_putF (D := D) (ci := ci) (v := .ref q) (ty := .array ty) (C := C) (T := T) (N := N) hexec hb hts hin ty0 hty hnm hown hK hP hD hS 0 rfl hc k hk hlink (fun _ h9 => by rw [hdecl] at h9; exact h9) hfin hin2 hdecl hd rfl rfl (by rw [hJ.1]; exact hkl) hdg2 (fun H2 locs2 hP hD hS => ?_)
  exact kk H2 locs2 (fs.set k (.ref q)) (kJ_set hJ k _ hkL) hP hD hS
/-- anewarray; putfield of a final field of this constructor's object, the first of the world; the array is forgotten -/
theorem k_arrQ {N0 : Nat} {L : List (Nat × Value)} {fs : List Value} {wr : va_W} {ci : Nat} {C : String} {T : u_T} {N index : Nat} {Ts : List Cond} (hts : ∀ w ∈ Ts, w.before args s = true) (hin : ∀ w ∈ u_ws C T N, w ∈ Ts) (ty0 : Nat → FieldType) (hty : ∀ k, k < N → parseFieldDescriptor (T k).2.2.1 = some (ty0 k)) (hnm : ∀ a, a < N → ∀ b, b < N → a ≠ b → (T a).2.1 ≠ (T b).2.1)
    (hexec : p.tables.exec = Jvm.exec) (hb : c.code = cc) (hown : s.vm.findClass C = some m.cls) (hin2 : meth.name = "<init>") (hK : va_K D cl tys s) (hc : cl[ci]? = some (C, T, N)) (hJ : kJ N0 L fs) (hP : va_P D cl ((a, .inr (ci, fs)) :: wr) H) (hD : va_D A ((a, .inr (ci, fs)) :: wr)) (hS : va_S A H0 H locs) 
    {et : FieldType} {ix : Nat} (hclink : (Cond.classLink C ix (FieldType.array et).toString).before args s = true) (hover : (Cond.arrayOver (.array et)).before args s = true) (k : Nat) (hk : k < N) (hkl : k < N0) (hkL : (L.map Prod.fst).contains k = false) (hlink : (Cond.fieldLink C index C (T k).2.1 (T k).2.2.1).before args s = true) (hfin : (T k).2.2.2 = true) (hdecl : (T k).1 = C) {ty : FieldType} (hd : parseFieldDescriptor (T k).2.2.1 = some (.array ty))
    {n : Int32} {N' : Nat} (hn : ¬ n < 0) (hN : n.toNatClampNeg = N') (hbytes : N' * 4 ≤ 536870912) (hcells : cells + 1 ≤ R.cells) (hslots : slots + N' ≤ R.slots) (hdg : decode cc pc = .ok (.anewarray ix, 3)) (hdg2 : decode cc (pc + 3) = .ok (.putfield index, 3))
    (kk : ∀ (H1 : Heap) (locs1 : List Loc) (fs1 : List Value), kJ N0 L fs1 → va_P D cl ((a, .inr (ci, fs1)) :: wr) H1 → va_D A ((a, .inr (ci, fs1)) :: wr) → va_S A H0 H1 locs1 → W p l e R s m args below meth c H1 locs1 (cells + 1) (slots + N') Q (F0 m (pc + 3 + 3) ls rest)) : W p l e R s m args below meth c H locs cells slots Q (F0 m pc ls (.int n :: .ref a :: rest)) := by
  refine k_newq hexec hb hown hclink hover hP hD hS hn hN hbytes hcells hslots hdg (fun q H1 hP hD hS => ?_)
  refine va_putF (D := D) (ci := ci) (v := .ref q) (ty := .array ty) (C := C) (T := T) (N := N) hexec hb hts hin ty0 hty hnm hown hK hP hD hS 0 rfl hc k hk hlink (fun _ h9 => by rw [hdecl] at h9; exact h9) hfin hin2 hdecl hd rfl rfl (by rw [hJ.1]; exact hkl) hdg2 (fun H2 locs2 hP hD hS => ?_)
  exact kk H2 locs2 (fs.set k (.ref q)) (kJ_set hJ k _ hkL) hP hD hS
/-- newarray; putfield of a field of this object, the first of the world; the array is forgotten -/
theorem k_arrP {N0 : Nat} {L : List (Nat × Value)} {fs : List Value} {wr : va_W} {ci : Nat} {C : String} {T : u_T} {N index : Nat} {Ts : List Cond} (hts : ∀ w ∈ Ts, w.before args s = true) (hin : ∀ w ∈ u_ws C T N, w ∈ Ts) (ty0 : Nat → FieldType) (hty : ∀ k, k < N → parseFieldDescriptor (T k).2.2.1 = some (ty0 k)) (hnm : ∀ a, a < N → ∀ b, b < N → a ≠ b → (T a).2.1 ≠ (T b).2.1)
    (hexec : p.tables.exec = Jvm.exec) (hb : c.code = cc) (hown : s.vm.findClass C = some m.cls) (hK : va_K D cl tys s) (hc : cl[ci]? = some (C, T, N)) (hJ : kJ N0 L fs) (hP : va_P D cl ((a, .inr (ci, fs)) :: wr) H) (hD : va_D A ((a, .inr (ci, fs)) :: wr)) (hS : va_S A H0 H locs)
    {atype : ArrayType} (harr : (Cond.arrayClass (newarray.typeOf atype)).before args s = true) (k : Nat) (hk : k < N) (hkl : k < N0) (hkL : (L.map Prod.fst).contains k = false) (hlink : (Cond.fieldLink C index C (T k).2.1 (T k).2.2.1).before args s = true) (hfin : (T k).2.2.2 = false) (hdecl : (T k).1 = C) {ty : FieldType} (hd : parseFieldDescriptor (T k).2.2.1 = some (.array ty))
    {n : Int32} {N' : Nat} (hn : ¬ n < 0) (hN : n.toNatClampNeg = N') (hbytes : N' * componentBytes (newarray.typeOf atype) ≤ 536870912) (hcells : cells + 1 ≤ R.cells) (hslots : slots + N' ≤ R.slots) (hdg : decode cc pc = .ok (.newarray atype, 2)) (hdg2 : decode cc (pc + 2) = .ok (.putfield index, 3))
    (kk : ∀ (H1 : Heap) (locs1 : List Loc) (fs1 : List Value), kJ N0 L fs1 → va_P D cl ((a, .inr (ci, fs1)) :: wr) H1 → va_D A ((a, .inr (ci, fs1)) :: wr) → va_S A H0 H1 locs1 → W p l e R s m args below meth c H1 locs1 (cells + 1) (slots + N') Q (F0 m (pc + 2 + 3) ls rest)) : W p l e R s m args below meth c H locs cells slots Q (F0 m pc ls (.int n :: .ref a :: rest)) := by
  refine k_newa hexec hb harr hP hD hS hn hN hbytes hcells hslots hdg (fun q H1 hP hD hS => ?_)
  refine va_put (D := D) (ci := ci) (v := .ref q) (ty := .array ty) (C := C) (T := T) (N := N) hexec hb hts hin ty0 hty hnm hown hK hP hD hS 0 rfl hc k hk hlink (fun _ h9 => by rw [hdecl] at h9; exact h9) hfin hd rfl rfl (by rw [hJ.1]; exact hkl) hdg2 (fun H2 locs2 hP hD hS => ?_)
  exact kk H2 locs2 (fs.set k (.ref q)) (kJ_set hJ k _ hkL) hP hD hS
/-- putfield of a field that isn't final, of the first object of the world -/
theorem k_put {N0 : Nat} {L : List (Nat × Value)} (L2 : List (Nat × Value)) {fs : List Value} {wr : va_W} {ci : Nat} {own C : String} {T : u_T} {N index : Nat} {Ts : List Cond} (hts : ∀ w ∈ Ts, w.before args s = true) (hin : ∀ w ∈ u_ws C T N, w ∈ Ts) (ty0 : Nat → FieldType) (hty : ∀ k, k < N → parseFieldDescriptor (T k).2.2.1 = some (ty0 k)) (hnm : ∀ a, a < N → ∀ b, b < N → a ≠ b → (T a).2.1 ≠ (T b).2.1)
    (hexec : p.tables.exec = Jvm.exec) (hb : c.code = cc) (hown : s.vm.findClass own = some m.cls) (hK : va_K D cl tys s) (hc : cl[ci]? = some (C, T, N)) (hJ : kJ N0 L fs) (hP : va_P D cl ((a, .inr (ci, fs)) :: wr) H) (hD : va_D A ((a, .inr (ci, fs)) :: wr)) (hS : va_S A H0 H locs)
    (k : Nat) (hk : k < N) (hkl : k < N0) (hlink : (Cond.fieldLink own index (T k).1 (T k).2.1 (T k).2.2.1).before args s = true) (hfin : (T k).2.2.2 = false) {ty : FieldType} (hd : parseFieldDescriptor (T k).2.2.1 = some ty) {v : Value} (hn : narrow ty v = v) (hfit : fits ty v = true) (hdg2 : decode cc pc = .ok (.putfield index, 3)) (hJ2 : ∀ f, kJ N0 L f → kJ N0 L2 (f.set k v))
    (kk : ∀ (H1 : Heap) (locs1 : List Loc) (fs1 : List Value), kJ N0 L2 fs1 → va_P D cl ((a, .inr (ci, fs1)) :: wr) H1 → va_D A ((a, .inr (ci, fs1)) :: wr) → va_S A H0 H1 locs1 → W p l e R s m args below meth c H1 locs1 cells slots Q (F0 m (pc + 3) ls rest)) : W p l e R s m args below meth c H locs cells slots Q (F0 m pc ls (v :: .ref a :: rest)) := by
  refine va_put (D := D) (ci := ci) (v := v) (ty := ty) (C := C) (T := T) (N := N) hexec hb hts hin ty0 hty hnm hown hK hP hD hS 0 rfl hc k hk hlink (fun _ h9 => h9) hfin hd hn hfit (by rw [hJ.1]; exact hkl) hdg2 (fun H2 locs2 hP hD hS => ?_)
  exact kk H2 locs2 (fs.set k v) (hJ2 fs hJ) hP hD hS
/-- the same of a final field, in the constructor -/
theorem k_putF {N0 : Nat} {L : List (Nat × Value)} (L2 : List (Nat × Value)) {fs : List Value} {wr : va_W} {ci : Nat} {C : String} {T : u_T} {N index : Nat} {Ts : List Cond} (hts : ∀ w ∈ Ts, w.before args s = true) (hin : ∀ w ∈ u_ws C T N, w ∈ Ts) (ty0 : Nat → FieldType) (hty : ∀ k, k < N → parseFieldDescriptor (T k).2.2.1 = some (ty0 k)) (hnm : ∀ a, a < N → ∀ b, b < N → a ≠ b → (T a).2.1 ≠ (T b).2.1)
    (hexec : p.tables.exec = Jvm.exec) (hb : c.code = cc) (hown : s.vm.findClass C = some m.cls) (hin2 : meth.name = "<init>") (hK : va_K D cl tys s) (hc : cl[ci]? = some (C, T, N)) (hJ : kJ N0 L fs) (hP : va_P D cl ((a, .inr (ci, fs)) :: wr) H) (hD : va_D A ((a, .inr (ci, fs)) :: wr)) (hS : va_S A H0 H locs)
    (k : Nat) (hk : k < N) (hkl : k < N0) (hdecl : (T k).1 = C) (hlink : (Cond.fieldLink C index C (T k).2.1 (T k).2.2.1).before args s = true) (hfin : (T k).2.2.2 = true) {ty : FieldType} (hd : parseFieldDescriptor (T k).2.2.1 = some ty) {v : Value} (hn : narrow ty v = v) (hfit : fits ty v = true) (hdg2 : decode cc pc = .ok (.putfield index, 3)) (hJ2 : ∀ f, kJ N0 L f → kJ N0 L2 (f.set k v))
    (kk : ∀ (H1 : Heap) (locs1 : List Loc) (fs1 : List Value), kJ N0 L2 fs1 → va_P D cl ((a, .inr (ci, fs1)) :: wr) H1 → va_D A ((a, .inr (ci, fs1)) :: wr) → va_S A H0 H1 locs1 → W p l e R s m args below meth c H1 locs1 cells slots Q (F0 m (pc + 3) ls rest)) : W p l e R s m args below meth c H locs cells slots Q (F0 m pc ls (v :: .ref a :: rest)) := by
  refine va_putF (D := D) (ci := ci) (v := v) (ty := ty) (C := C) (T := T) (N := N) hexec hb hts hin ty0 hty hnm hown hK hP hD hS 0 rfl hc k hk hlink (fun _ h9 => by rw [hdecl] at h9; exact h9) hfin hin2 hdecl hd hn hfit (by rw [hJ.1]; exact hkl) hdg2 (fun H2 locs2 hP hD hS => ?_)
  exact kk H2 locs2 (fs.set k v) (hJ2 fs hJ) hP hD hS
/-- aastore of a text constant into the first array of the world; which one is forgotten -/
theorem k_aast {wr : va_W} (hexec : p.tables.exec = Jvm.exec) (hb : c.code = cc) (hK : va_K D cl tys s) {cA : ClassId} {n v : Nat} {f : Nat → Option Nat} (hP : va_P D cl ((a, .inl (cA, n, .inr (.inr (.inr (.inr f))))) :: wr) H) (hD : va_D A ((a, .inl (cA, n, .inr (.inr (.inr (.inr f))))) :: wr)) (hS : va_S A H0 H locs) (t0 : Nat) {E : String} (ht : tys[t0]? = some (cA, .object E)) (hr : va_Any E s H v) {i : Int32} (hin : vp_in i n) (hdg : decode cc pc = .ok (.aastore, 1))
    (kk : ∀ (H1 : Heap) (locs1 : List Loc) (f1 : Nat → Option Nat), va_P D cl ((a, .inl (cA, n, .inr (.inr (.inr (.inr f1))))) :: wr) H1 → va_D A ((a, .inl (cA, n, .inr (.inr (.inr (.inr f1))))) :: wr) → va_S A H0 H1 locs1 → W p l e R s m args below meth c H1 locs1 cells slots Q (F0 m (pc + 1) ls rest)) : W p l e R s m args below meth c H locs cells slots Q (F0 m pc ls (.ref v :: .int i :: .ref a :: rest)) :=
  va_astqM hexec hb hK hP hD hS 0 t0 rfl ht hr hin hdg (fun H1 locs1 h1 h2 h3 => kk H1 locs1 _ h1 h2 h3)
end KA
/-- the two statics of Throwable: null or some reference, their cells not in A -/
def tZ (A : Nat → Prop) (U : State) (H : Heap) : Prop := va_Zq "java/lang/Throwable" "UNASSIGNED_STACK" "[Ljava/lang/StackTraceElement;" A U H ∧ va_Zq "java/lang/Throwable" "SUPPRESSED_SENTINEL" "Ljava/util/List;" A U H
theorem tZ.moved {A : Nat → Prop} {u U : State} {H : Heap} (hvm : u.vm.Alike U.vm) (h : tZ A u H) : tZ A U H := ⟨va_Zq.moved hvm h.1, va_Zq.moved hvm h.2⟩
theorem tZ.kept {A : Nat → Prop} {U : State} {H H1 : Heap} (h : tZ A U H) (hq : ∀ a : Nat, a < H.size → ¬ A a → H1[a]? = H[a]?) : tZ A U H1 := ⟨va_Zq.kept h.1 hq, va_Zq.kept h.2 hq⟩
theorem tZ.narrow {A B : Nat → Prop} {U : State} {H : Heap} (h : tZ A U H) (hAB : ∀ q, B q → A q) : tZ B U H := ⟨va_Zq.narrow h.1 hAB, va_Zq.narrow h.2 hAB⟩
/-- a static that is null or a reference: its value, fit for a field of objects or arrays -/
theorem zq_val {C n d : String} {A : Nat → Prop} {U : State} {H : Heap} (h : va_Zq C n d A U H) : ∃ v : Value, va_Z C n d v A U H ∧ (∀ x, narrow (.object x) v = v ∧ fits (.object x) v = true) ∧ (∀ x, narrow (.array x) v = v ∧ fits (.array x) v = true) := by
  rcases h with h | ⟨t, h⟩
  · exact ⟨.null, h, fun _ => ⟨rfl, rfl⟩, fun _ => ⟨rfl, rfl⟩⟩
  · exact ⟨.ref t, h, fun _ => ⟨rfl, rfl⟩, fun _ => ⟨rfl, rfl⟩⟩
/-- a text constant: where it lies, a String, not in A -/
def sT (own : String) (A : Nat → Prop) (x : Nat × String) (U : State) (q : Nat) : Prop := vk_R own x.1 x.2 q U ∧ va_Any "java/lang/String" U U.heap q ∧ ¬ A q
theorem sT.any {own : String} {A : Nat → Prop} {x : Nat × String} {s : State} {q : Nat} {H : Heap} {locs : List Loc} (h : sT own A x s q) (hS : va_S A s.heap H locs) : va_Any "java/lang/String" s H q := by
  obtain ⟨-, ⟨cell, h1, h2, h3, h4⟩, hn⟩ := h
  exact ⟨cell, by rw [hS.2.1 q (Array.getElem?_eq_some_iff.mp h1).1 hn]; exact h1, h2, h3, h4⟩
theorem sT.moved {own : String} {A B : Nat → Prop} {x : Nat × String} {u U : State} {q : Nat} (h : sT own A x u q) (hW : u.WarmedH U.vm) (hq : ∀ a : Nat, a < u.heap.size → ¬ A a → U.heap[a]? = u.heap[a]?) (hB : ∀ q, B q → A q) : sT own B x U q := by
  obtain ⟨h0, ⟨cell, h1, h2, ⟨kC, h3⟩, h4⟩, hn⟩ := h
  refine ⟨vk_R.warm hW h0, ⟨cell, by rw [hq q (Array.getElem?_eq_some_iff.mp h1).1 hn]; exact h1, h2, ?_, ?_⟩, fun z => hn (hB _ z)⟩
  · obtain ⟨k', hk', -⟩ := hW.alike.2.2 _ _ h3
    exact ⟨k', hk'⟩
  · intro comp hc
    rw [hW.alike.assignable]
    exact h4 comp (by rw [← hW.alike.findClass]; exact hc)
/-- arrays over a type are there -/
def aO (ty : FieldType) (U : State) : Prop := (Cond.arrayOver ty).before #[] U = true
theorem aO.moved {ty : FieldType} {u U : State} (hvm : u.vm.Alike U.vm) (h : aO ty u) : aO ty U := by
  have h2 : (Cond.arrayOver ty).before #[] (u.setVm U.vm) = true := by rw [Cond.arrayOver_setVmC hvm]; exact h
  exact h2
theorem aO.use {ty : FieldType} {U : State} {A : Array Value} (h : aO ty U) : (Cond.arrayOver ty).before A U = true := h
theorem aO.of {ty : FieldType} {U : State} {A : Array Value} (h : (Cond.arrayOver ty).before A U = true) : aO ty U := h
end
section
/-! The words: one list for all walks -/
def wB_0 : List Cond := [Cond.methodLink RX13 1 objectInit, Cond.instanceMethod objectInit, Cond.code objectInit ⟨#[0xb1]⟩ 1 none, Cond.classLink RX13 7 RX12, Cond.instantiable RX12 6, Cond.initialized RX12, Cond.fieldLink RX13 10 "MeetingHouseModel" "halt" "LMeetingHouseModel$Halt;", Cond.arrayClass .int, Cond.fieldLink RX13 16 "MeetingHouseModel" "tape" "[I", Cond.classLink RX13 20 RJ0, Cond.fieldLink RX13 94 "MeetingHouseModel" "words" "[Ljava/lang/String;", Cond.fieldLink RX13 154 "MeetingHouseModel" "signs" "[Ljava/lang/String;", Cond.fieldLink RX13 157 "MeetingHouseModel" "tKind" "[I", Cond.fieldLink RX13 160 "MeetingHouseModel" "tValue" "[I", Cond.fieldLink RX13 163 "MeetingHouseModel" "tLine" "[I", Cond.fieldLink RX13 166 "MeetingHouseModel" "tBlanks" "[I", Cond.fieldLink RX13 169 "MeetingHouseModel" "nameAt" "[I", Cond.fieldLink RX13 172 "MeetingHouseModel" "nameSize" "[I", Cond.fieldLink RX13 175 "MeetingHouseModel" "nameText" "[I", Cond.fieldLink RX13 178 "MeetingHouseModel" "stringAt" "[I", Cond.fieldLink RX13 181 "MeetingHouseModel" "stringSize" "[I", Cond.fieldLink RX13 184 "MeetingHouseModel" "stringText" "[I", Cond.fieldLink RX13 187 "MeetingHouseModel" "kind" "[I", Cond.fieldLink RX13 190 "MeetingHouseModel" "line" "[I", Cond.fieldLink RX13 193 "MeetingHouseModel" "a" "[I", Cond.fieldLink RX13 196 "MeetingHouseModel" "b" "[I", Cond.fieldLink RX13 199 "MeetingHouseModel" "c" "[I", Cond.fieldLink RX13 202 "MeetingHouseModel" "sym" "[I", Cond.fieldLink RX13 205 "MeetingHouseModel" "next" "[I", Cond.fieldLink RX13 208 "MeetingHouseModel" "type" "[I", Cond.fieldLink RX13 211 "MeetingHouseModel" "spec" "[I", Cond.fieldLink RX13 214 "MeetingHouseModel" "result" "[I", Cond.fieldLink RX13 217 "MeetingHouseModel" "inner" "[I", Cond.fieldLink RX13 220 "MeetingHouseModel" "sName" "[I", Cond.fieldLink RX13 223 "MeetingHouseModel" "sKind" "[I", Cond.fieldLink RX13 226 "MeetingHouseModel" "sType" "[I", Cond.fieldLink RX13 229 "MeetingHouseModel" "sMany" "[I", Cond.fieldLink RX13 232 "MeetingHouseModel" "sNode" "[I", Cond.fieldLink RX13 235 "MeetingHouseModel" "sLine" "[I", Cond.fieldLink RX13 238 "MeetingHouseModel" "sUnit" "[I"]
def wB_1 : List Cond := [Cond.fieldLink RX13 241 "MeetingHouseModel" "sSlot" "[I", Cond.arrayClass .boolean, Cond.fieldLink RX13 244 "MeetingHouseModel" "sFormal" "[Z", Cond.fieldLink RX13 248 "MeetingHouseModel" "sOf" "[I", Cond.fieldLink RX13 251 "MeetingHouseModel" "sE" "[I", Cond.fieldLink RX13 254 "MeetingHouseModel" "knownSymbol" "[I", Cond.fieldLink RX13 257 "MeetingHouseModel" "unitAround" "[I", Cond.fieldLink RX13 260 "MeetingHouseModel" "unitSlots" "[I", Cond.fieldLink RX13 263 "MeetingHouseModel" "unitOf" "[I", Cond.fieldLink RX13 266 "MeetingHouseModel" "symbolsFrom" "[I", Cond.fieldLink RX13 269 "MeetingHouseModel" "ownFrom" "[I", Cond.fieldLink RX13 272 "MeetingHouseModel" "sConstant" "[Z", Cond.fieldLink RX13 275 "MeetingHouseModel" "sValue" "[I", Cond.fieldLink RX13 278 "MeetingHouseModel" "tried" "[I", Cond.fieldLink RX13 281 "MeetingHouseModel" "isTried" "[Z", Cond.arrayClass .long, Cond.fieldLink RX13 284 "MeetingHouseModel" "weightOf" "[J", Cond.fieldLink RX13 288 "MeetingHouseModel" "baseOf" "[I", Cond.fieldLink RX13 291 "MeetingHouseModel" "countOf" "[I", Cond.constant RX13 294 (32768), Cond.fieldLink RX13 295 "MeetingHouseModel" "effectOf" "[I", Cond.fieldLink RX13 298 "MeetingHouseModel" "effectHow" "[I", Cond.fieldLink RX13 301 "MeetingHouseModel" "effectFrom" "[I", Cond.fieldLink RX13 304 "MeetingHouseModel" "effectTo" "[I", Cond.fieldLink RX13 307 "MeetingHouseModel" "hasTalk" "[Z", Cond.fieldLink RX13 310 "MeetingHouseModel" "placeBits" "[J", Cond.fieldLink RX13 313 "MeetingHouseModel" "freeSymbol" "[I", Cond.fieldLink RX13 316 "MeetingHouseModel" "isFixed" "[Z", Cond.fieldLink RX13 319 "MeetingHouseModel" "keptAt" "[I", Cond.fieldLink RX13 322 "MeetingHouseModel" "keptBits" "[J", Cond.fieldLink RX13 325 "MeetingHouseModel" "argSymbol" "[I", Cond.fieldLink RX13 328 "MeetingHouseModel" "argAll" "[Z", Cond.fieldLink RX13 331 "MeetingHouseModel" "argBits" "[J", Cond.fieldLink RX13 334 "MeetingHouseModel" "touchedSymbol" "[I", Cond.fieldLink RX13 337 "MeetingHouseModel" "aheadAll" "[Z", Cond.fieldLink RX13 340 "MeetingHouseModel" "aheadBits" "[J", Cond.fieldLink RX13 343 "MeetingHouseModel" "nowAll" "[Z", Cond.fieldLink RX13 346 "MeetingHouseModel" "nowBits" "[J", Cond.constant RX13 349 (65536), Cond.fieldLink RX13 350 "MeetingHouseModel" "heap" "[I"]
def wB_2 : List Cond := [Cond.fieldLink RX13 353 "MeetingHouseModel" "changedBy" "[I", Cond.fieldLink RX13 356 "MeetingHouseModel" "usedBy" "[I", Cond.fieldLink RX13 359 "MeetingHouseModel" "pieceAt" "[I", Cond.fieldLink RX13 362 "MeetingHouseModel" "pieceSize" "[I", Cond.classLink RX13 365 "[I", Cond.fieldLink RX13 366 "MeetingHouseModel" "pages" "[[I", Cond.fieldLink RX13 370 "MeetingHouseModel" "gapAt" "[I", Cond.fieldLink RX13 373 "MeetingHouseModel" "gapSize" "[I", Cond.fieldLink RX13 376 "MeetingHouseModel" "out" "[I", Cond.fieldLink RX13 379 "MeetingHouseModel" "input" "[I", Cond.fieldLink RX13 382 "MeetingHouseModel" "meeting" "[I", Cond.fieldLink RX13 385 "MeetingHouseModel" "order" "[I", Cond.fieldLink RX13 388 "MeetingHouseModel" "isSlot" "[Z", Cond.fieldLink RX13 391 "MeetingHouseModel" "pNumber" "[I", Cond.fieldLink RX13 394 "MeetingHouseModel" "pState" "[I", Cond.fieldLink RX13 397 "MeetingHouseModel" "pParent" "[I", Cond.fieldLink RX13 400 "MeetingHouseModel" "pFrame" "[I", Cond.fieldLink RX13 403 "MeetingHouseModel" "pOwn" "[I", Cond.fieldLink RX13 406 "MeetingHouseModel" "pTop" "[I", Cond.fieldLink RX13 409 "MeetingHouseModel" "pLeft" "[I", Cond.fieldLink RX13 412 "MeetingHouseModel" "pLine" "[I", Cond.fieldLink RX13 415 "MeetingHouseModel" "pFault" "[I", Cond.fieldLink RX13 418 "MeetingHouseModel" "pChannel" "[I", Cond.fieldLink RX13 421 "MeetingHouseModel" "pTime" "[I", Cond.fieldLink RX13 424 "MeetingHouseModel" "pBlock" "[I", Cond.fieldLink RX13 427 "MeetingHouseModel" "pSize" "[I", Cond.fieldLink RX13 430 "MeetingHouseModel" "pDone" "[Z", Cond.fieldLink RX13 433 "MeetingHouseModel" "pCalls" "[I", Cond.fieldLink RX13 436 "MeetingHouseModel" "sheets" "[[I", Cond.fieldLink RX13 439 "MeetingHouseModel" "tableAt" "[I", Cond.fieldLink RX13 442 "MeetingHouseModel" "tableSize" "[I", Cond.fieldLink RX13 445 "MeetingHouseModel" "vAt" "[I", Cond.fieldLink RX13 448 "MeetingHouseModel" "vSize" "[I", Cond.methodLink RX13 9 yX12_init, Cond.instanceMethod yX12_init, Cond.code yX12_init cX12_init 1 none, Cond.methodLink RX12 3 yR4, Cond.instanceMethod yR4, Cond.code yR4 cR4 5 none, Cond.initialized RRt]
def wB_3 : List Cond := [Cond.methodLink RRt 16 yE4, Cond.instanceMethod yE4, Cond.code yE4 cE4 5 none, Cond.initialized REx, Cond.methodLink REx 16 yT4, Cond.instanceMethod yT4, Cond.code yT4 cT4 5 none, Cond.initialized RTh, Cond.methodLink RTh 1 objectInit, Cond.fieldLink RTh 7 RTh "cause" "Ljava/lang/Throwable;", Cond.fieldLink RTh 13 RTh "UNASSIGNED_STACK" "[Ljava/lang/StackTraceElement;", Cond.fieldLink RTh 17 RTh "stackTrace" "[Ljava/lang/StackTraceElement;", Cond.fieldLink RTh 20 RTh "SUPPRESSED_SENTINEL" "Ljava/util/List;", Cond.fieldLink RTh 24 RTh "suppressedExceptions" "Ljava/util/List;", Cond.fieldLink RTh 31 RTh "detailMessage" "Ljava/lang/String;", Cond.fieldLink RX13 451 "MeetingHouseModel" "thrown" "I", Cond.fieldLink RX13 1122 "MeetingHouseModel" "begun" "Z", Cond.code yX13_process_ cX13_process_ 5 (some .int), Cond.code yX13_back cX13_back 2 (some .int), Cond.fieldLink RX13 455 "MeetingHouseModel" "taped" "I", Cond.code yX13_begin cX13_begin 3 none, Cond.fieldLink RX13 1119 "MeetingHouseModel" "there" "Z", Cond.code yX13_run cX13_run 5 (some .int), Cond.code yX13_thrown cX13_thrown 1 (some .int), Cond.code yX13_state cX13_state 1 (some .int), Cond.code yX13_count cX13_count 4 (some .int), Cond.methodLink RX13 1501 yX13_state, Cond.instanceMethod yX13_state, Cond.selects RX13 yX13_state yX13_state, Cond.initialized RX13, Cond.code yX13_key cX13_key 4 (some .boolean), Cond.code yX13_output cX13_output 2 (some .int), Cond.code yX13_cell cX13_cell 7 (some .int), Cond.code yX13_meeting cX13_meeting 3 (some .int), Cond.code yX13_clashes cX13_clashes 1 (some .int)]
def wB : List Cond := wB_0 ++ (wB_1 ++ (wB_2 ++ (wB_3)))
def wP : List Cond := wB ++ (wsX120 ++ wsX130)
theorem bP {k0 w : Cond} (i : Nat) (h : wB[i]? = some w) : w ∈ k0 :: wP := List.mem_cons_of_mem _ (List.mem_append_left _ (List.mem_of_getElem? h))
theorem iX12 {k0 : Cond} : ∀ w ∈ u_ws RX12 TX12 6, w ∈ k0 :: wP := fun _ h => List.mem_cons_of_mem _ (List.mem_append_right _ (List.mem_append_left _ h))
theorem iX13 {k0 : Cond} : ∀ w ∈ u_ws RX13 TX13 180, w ∈ k0 :: wP := fun _ h => List.mem_cons_of_mem _ (List.mem_append_right _ (List.mem_append_right _ h))
/-- every word is good: a callee's words are among its caller's -/
theorem wB_good : wB.all goodWord = true := by decide +kernel
theorem wX12_good : wsX120.all goodWord = true := by decide +kernel
theorem wX13_good : wsX130.all goodWord = true := by decide +kernel
theorem wP_good : ∀ w ∈ wP, goodWord w = true := fun w h => (List.mem_append.mp h).elim (List.all_eq_true.mp wB_good w) (fun h => (List.mem_append.mp h).elim (List.all_eq_true.mp wX12_good w) (List.all_eq_true.mp wX13_good w))
theorem gP {k0 : Cond} (w : Cond) (i : Nat) (h : wB[i]? = some w) : GoodIn (k0 :: wP) (w :: wP) := by
  have hw : w ∈ wP := List.mem_append_left _ (List.mem_of_getElem? h)
  intro x hx
  rcases List.mem_cons.mp hx with e | hx
  · subst e
    exact ⟨List.mem_cons_of_mem _ hw, good_of_word (wP_good _ hw)⟩
  · exact ⟨List.mem_cons_of_mem _ hx, good_of_word (wP_good _ hx)⟩
/-- what matters of the fields of a MeetingHouseModel that was made: the halt, the tape, the tokens' rows; an empty tape, no program, no run -/
abbrev mL (qh q2 q7 q8 q9 q10 : Nat) : List (Nat × Value) := [(0, .ref qh), (2, .ref q2), (7, .ref q7), (8, .ref q8), (9, .ref q9), (10, .ref q10), (3, .int 0), (110, .int 0), (123, .int 0)]
end
section
/-! Own rows for the walker -/
theorem kJ_put {N : Nat} {L : List (Nat × Value)} {fs : List Value} (h : kJ N L fs) (k : Nat) (v : Value) (hl : k < N) : kJ N ((k, v) :: L.filter (fun x => x.1 != k)) (fs.set k v) :=
  kJ_up h k v _ (fun x hx => by
    rcases List.mem_cons.mp hx with e | hx
    · exact Or.inl e
    · obtain ⟨h1, h2⟩ := List.mem_filter.mp hx
      exact Or.inr ⟨h1, by simpa using h2⟩) hl
section KB
variable {p : Program} {l : Launch} {e : Env} {R : Room} {s : State} {m : MethodId} {args : Array Value} {below : List Frame} {meth : Method} {c : Code} {H : Heap} {locs : List Loc} {cells slots : Nat} {Q : State → Prop}
variable {cc : ByteArray} {pc : Nat} {ls : Array Slot} {rest : List Value} {D : va_G} {cl : List vw_C} {A : Nat → Prop} {a : Nat} {tys : List (ClassId × FieldType)} {ws : va_W} {H0 : Heap}
theorem k_i {x v : Int32} (h : x = v) (k : W p l e R s m args below meth c H locs cells slots Q (F0 m pc ls (.int v :: rest))) : W p l e R s m args below meth c H locs cells slots Q (F0 m pc ls (.int x :: rest)) := by
  rw [h]; exact k
theorem kq_put {N0 : Nat} {L : List (Nat × Value)} (L2 : List (Nat × Value)) {fs : List Value} {ci : Nat} {own C : String} {T : u_T} {N index : Nat} {Ts : List Cond} (hts : ∀ w ∈ Ts, w.before args s = true) (hin : ∀ w ∈ u_ws C T N, w ∈ Ts) (ty0 : Nat → FieldType) (hty : ∀ k, k < N → parseFieldDescriptor (T k).2.2.1 = some (ty0 k)) (hnm : ∀ a, a < N → ∀ b, b < N → a ≠ b → (T a).2.1 ≠ (T b).2.1)
    (hexec : p.tables.exec = Jvm.exec) (hb : c.code = cc) (hown : s.vm.findClass own = some m.cls) (hK : va_K D cl tys s) (hP : va_P D cl ws H) (hD : va_D A ws) (hS : va_S A H0 H locs) (q0 : Nat) (he : ws[q0]? = some (a, .inr (ci, fs))) (hc : cl[ci]? = some (C, T, N)) (hJ : kJ N0 L fs)
    (k : Nat) (hk : k < N) (hkl : k < N0) (hlink : (Cond.fieldLink own index (T k).1 (T k).2.1 (T k).2.2.1).before args s = true) (hfin : (T k).2.2.2 = false) {ty : FieldType} (hd : parseFieldDescriptor (T k).2.2.1 = some ty) {v : Value} (hn : narrow ty v = v) (hfit : fits ty v = true) (hdg2 : decode cc pc = .ok (.putfield index, 3)) (hJ2 : ∀ f, kJ N0 L f → kJ N0 L2 (f.set k v))
    (kk : ∀ (H1 : Heap) (locs1 : List Loc) (fs1 : List Value), kJ N0 L2 fs1 → va_P D cl (ws.set q0 (a, .inr (ci, fs1))) H1 → va_D A (ws.set q0 (a, .inr (ci, fs1))) → va_S A H0 H1 locs1 → W p l e R s m args below meth c H1 locs1 cells slots Q (F0 m (pc + 3) ls rest)) : W p l e R s m args below meth c H locs cells slots Q (F0 m pc ls (v :: .ref a :: rest)) := by
  refine va_put (D := D) (ci := ci) (v := v) (ty := ty) (C := C) (T := T) (N := N) hexec hb hts hin ty0 hty hnm hown hK hP hD hS q0 he hc k hk hlink (fun _ h9 => h9) hfin hd hn hfit (by rw [hJ.1]; exact hkl) hdg2 (fun H2 locs2 hP hD hS => ?_)
  exact kk H2 locs2 (fs.set k v) (hJ2 fs hJ) hP hD hS
theorem kq_iast (hexec : p.tables.exec = Jvm.exec) (hb : c.code = cc) (hK : va_K D cl tys s) (hP : va_P D cl ws H) (hD : va_D A ws) (hS : va_S A H0 H locs) (q0 t0 : Nat) {cA : ClassId} {n : Nat} {f : Nat → Int32} (ha : ws[q0]? = some (a, .inl (cA, n, .inl f))) (ht : tys[t0]? = some (cA, .int)) {i : Int32} {x : Int32} (hin : vp_in i n) (hdg : decode cc pc = .ok (.iastore, 1))
    (kk : ∀ (H1 : Heap) (locs1 : List Loc) (f1 : Nat → Int32), f1 = upd f i.toNatClampNeg x → va_P D cl (ws.set q0 (a, .inl (cA, n, .inl f1))) H1 → va_D A (ws.set q0 (a, .inl (cA, n, .inl f1))) → va_S A H0 H1 locs1 → W p l e R s m args below meth c H1 locs1 cells slots Q (F0 m (pc + 1) ls rest)) : W p l e R s m args below meth c H locs cells slots Q (F0 m pc ls (.int x :: .int i :: .ref a :: rest)) :=
  va_iast hexec hb hK hP hD hS q0 t0 ha ht hin hdg (fun H1 locs1 h1 h2 h3 => kk H1 locs1 _ rfl h1 h2 h3)
theorem kq_bast (hexec : p.tables.exec = Jvm.exec) (hb : c.code = cc) (hK : va_K D cl tys s) (hP : va_P D cl ws H) (hD : va_D A ws) (hS : va_S A H0 H locs) (q0 t0 : Nat) {cA : ClassId} {n : Nat} {f : Nat → Int32} (ha : ws[q0]? = some (a, .inl (cA, n, .inl f))) (ht : tys[t0]? = some (cA, .byte)) {i : Int32} {x : Int32} (hin : vp_in i n) (hdg : decode cc pc = .ok (.bastore, 1))
    (kk : ∀ (H1 : Heap) (locs1 : List Loc) (f1 : Nat → Int32), f1 = upd f i.toNatClampNeg (vp_nar .byte x) → va_P D cl (ws.set q0 (a, .inl (cA, n, .inl f1))) H1 → va_D A (ws.set q0 (a, .inl (cA, n, .inl f1))) → va_S A H0 H1 locs1 → W p l e R s m args below meth c H1 locs1 cells slots Q (F0 m (pc + 1) ls rest)) : W p l e R s m args below meth c H locs cells slots Q (F0 m pc ls (.int x :: .int i :: .ref a :: rest)) :=
  va_bast hexec hb hK hP hD hS q0 t0 ha ht hin hdg (fun H1 locs1 h1 h2 h3 => kk H1 locs1 _ rfl h1 h2 h3)
end KB
theorem gV {k0 : Cond} {own C : String} {idx : Nat} {y : MethodName} (w : Cond) (i1 i2 i3 i4 i5 : Nat) (h1 : wB[i1]? = some (.methodLink own idx y)) (h2 : wB[i2]? = some (.instanceMethod y)) (h3 : wB[i3]? = some (.selects C y y)) (h4 : wB[i4]? = some (.initialized C)) (h5 : wB[i5]? = some w) : GoodIn (k0 :: wP) (wsV own idx C y (w :: wP)) := by
  have hg : ∀ {i : Nat} {x : Cond}, wB[i]? = some x → x ∈ k0 :: wP ∧ _ := fun {i x} h => ⟨bP i h, good_of_word (wP_good _ (List.mem_append_left _ (List.mem_of_getElem? h)))⟩
  intro x hx
  rcases List.mem_append.mp hx with h | h
  · simp only [List.mem_cons, List.not_mem_nil, or_false] at h
    rcases h with e | e | e | e <;> subst e
    · exact hg h1
    · exact hg h2
    · exact hg h3
    · exact hg h4
  · exact gP w i5 h5 x h
theorem i_eq0 {x : Int32} (h1 : ¬ x < 0) (h2 : x ≤ 0) : x = 0 := by
  have a1 : ¬ x.toInt < (0 : Int32).toInt := fun h => h1 (Int32.lt_iff_toInt_lt.mpr h)
  have a2 := Int32.le_iff_toInt_le.mp h2
  have e : (0 : Int32).toInt = 0 := rfl
  rw [e] at a1 a2
  exact Int32.toInt_inj.mp (by rw [e]; omega)
theorem i5 {x : Int32} (h1 : ¬ x < 0) (h2 : x < 5) : x = 0 ∨ x = 1 ∨ x = 2 ∨ x = 3 ∨ x = 4 := by
  have a1 : ¬ x.toInt < (0 : Int32).toInt := fun h => h1 (Int32.lt_iff_toInt_lt.mpr h)
  have a2 := Int32.lt_iff_toInt_lt.mp h2
  have e : (0 : Int32).toInt = 0 := rfl
  have e5 : (5 : Int32).toInt = 5 := rfl
  rw [e] at a1
  rw [e5] at a2
  have : x.toInt = 0 ∨ x.toInt = 1 ∨ x.toInt = 2 ∨ x.toInt = 3 ∨ x.toInt = 4 := by omega
  rcases this with h | h | h | h | h
  · exact Or.inl (Int32.toInt_inj.mp h)
  · exact Or.inr (Or.inl (Int32.toInt_inj.mp h))
  · exact Or.inr (Or.inr (Or.inl (Int32.toInt_inj.mp h)))
  · exact Or.inr (Or.inr (Or.inr (Or.inl (Int32.toInt_inj.mp h))))
  · exact Or.inr (Or.inr (Or.inr (Or.inr (Int32.toInt_inj.mp h))))
/-- what the two sides answer on a fresh object -/
def bk (x : Int32) : Int32 := if x = 0 then 0 else -1
theorem bk1 {x : Int32} (h : x < 0) : (-1 : Int32) = bk x := (if_neg (fun e => by subst e; exact absurd h (by decide))).symm
theorem bk2 {x z : Int32} (h1 : ¬ x < 0) (h2 : x ≤ 0) (e : z = 0 - x) : z = bk x := by
  have := i_eq0 h1 h2
  subst this
  rw [e]
  rfl
theorem bk3 {x : Int32} (h : ¬ x ≤ 0) : (-1 : Int32) = bk x := (if_neg (fun e => by subst e; exact absurd (by decide) h)).symm
def cnt (x : Int32) : Int32 := if x < 0 ∨ 13 < x then -1 else 0
theorem cnt1 {x : Int32} (h : x < 0) : (-1 : Int32) = cnt x := (if_pos (Or.inl h)).symm
theorem cnt2 {x : Int32} (h : 13 < x) : (-1 : Int32) = cnt x := (if_pos (Or.inr h)).symm
theorem cnt3 {x : Int32} (h1 : ¬ x < 5) (h2 : ¬ 13 < x) : (0 : Int32) = cnt x := by
  refine (if_neg ?_).symm
  rintro (h | h)
  · exact h1 (Int32.lt_trans h (by decide))
  · exact h2 h
/-- which exception run(n) is, on a fresh object -/
def rc (x : Int32) : Int32 := if x < 0 ∨ 2000 < x then 1 else 2
theorem rc1 {x : Int32} (h : x < 0) : rc x = 1 := if_pos (Or.inl h)
theorem rc2 {x : Int32} (h : ¬ x ≤ 2000) : rc x = 1 := if_pos (Or.inr (Int32.not_le.mp h))
theorem rc3 {x : Int32} (h1 : ¬ x < 0) (h2 : x ≤ 2000) : rc x = 2 := if_neg (fun h => h.elim h1 (fun h => absurd h2 (Int32.not_le.mpr h)))
theorem k_lo {x : Int32} (h : x < 0) : x.toInt < (0 : Int) := Int32.lt_iff_toInt_lt.mp h
theorem k_hi {x : Int32} (h : 13 < x) : (13 : Int) < x.toInt := Int32.lt_iff_toInt_lt.mp h
end
section
/-! The reference on a fresh object: an empty tape, no program, no run -/
theorem dX13_key_0 : decode cX13_key 0 = .ok (.aload_n 0, 1) := by decide +kernel
theorem dX13_key_1 : decode cX13_key 1 = .ok (.iconst 0, 1) := by decide +kernel
theorem dX13_key_2 : decode cX13_key 2 = .ok (.putfield 451, 3) := by decide +kernel
theorem dX13_key_5 : decode cX13_key 5 = .ok (.aload_n 0, 1) := by decide +kernel
theorem dX13_key_6 : decode cX13_key 6 = .ok (.getfield 1122, 3) := by decide +kernel
theorem dX13_key_9 : decode cX13_key 9 = .ok (.ifCond .eq 13, 3) := by decide +kernel
theorem dX13_key_22 : decode cX13_key 22 = .ok (.iconst 0, 1) := by decide +kernel
theorem dX13_key_23 : decode cX13_key 23 = .ok (.ireturn, 1) := by decide +kernel
theorem dX13_output_0 : decode cX13_output 0 = .ok (.aload_n 0, 1) := by decide +kernel
theorem dX13_output_1 : decode cX13_output 1 = .ok (.iconst 0, 1) := by decide +kernel
theorem dX13_output_2 : decode cX13_output 2 = .ok (.putfield 451, 3) := by decide +kernel
theorem dX13_output_5 : decode cX13_output 5 = .ok (.aload_n 0, 1) := by decide +kernel
theorem dX13_output_6 : decode cX13_output 6 = .ok (.getfield 1122, 3) := by decide +kernel
theorem dX13_output_9 : decode cX13_output 9 = .ok (.ifCond .eq 15, 3) := by decide +kernel
theorem dX13_output_24 : decode cX13_output 24 = .ok (.iconst (-1), 1) := by decide +kernel
theorem dX13_output_25 : decode cX13_output 25 = .ok (.goto 9, 3) := by decide +kernel
theorem dX13_output_34 : decode cX13_output 34 = .ok (.ireturn, 1) := by decide +kernel
theorem dX13_cell_0 : decode cX13_cell 0 = .ok (.aload_n 0, 1) := by decide +kernel
theorem dX13_cell_1 : decode cX13_cell 1 = .ok (.iconst 0, 1) := by decide +kernel
theorem dX13_cell_2 : decode cX13_cell 2 = .ok (.putfield 451, 3) := by decide +kernel
theorem dX13_cell_5 : decode cX13_cell 5 = .ok (.aload_n 0, 1) := by decide +kernel
theorem dX13_cell_6 : decode cX13_cell 6 = .ok (.getfield 1122, 3) := by decide +kernel
theorem dX13_cell_9 : decode cX13_cell 9 = .ok (.ifCond .eq 14, 3) := by decide +kernel
theorem dX13_cell_23 : decode cX13_cell 23 = .ok (.iconst 0, 1) := by decide +kernel
theorem dX13_cell_24 : decode cX13_cell 24 = .ok (.ireturn, 1) := by decide +kernel
theorem dX13_meeting_0 : decode cX13_meeting 0 = .ok (.aload_n 0, 1) := by decide +kernel
theorem dX13_meeting_1 : decode cX13_meeting 1 = .ok (.iconst 0, 1) := by decide +kernel
theorem dX13_meeting_2 : decode cX13_meeting 2 = .ok (.putfield 451, 3) := by decide +kernel
theorem dX13_meeting_5 : decode cX13_meeting 5 = .ok (.aload_n 0, 1) := by decide +kernel
theorem dX13_meeting_6 : decode cX13_meeting 6 = .ok (.getfield 1122, 3) := by decide +kernel
theorem dX13_meeting_9 : decode cX13_meeting 9 = .ok (.ifCond .eq 31, 3) := by decide +kernel
theorem dX13_meeting_40 : decode cX13_meeting 40 = .ok (.iconst (-1), 1) := by decide +kernel
theorem dX13_meeting_41 : decode cX13_meeting 41 = .ok (.ireturn, 1) := by decide +kernel
theorem dX13_clashes_0 : decode cX13_clashes 0 = .ok (.aload_n 0, 1) := by decide +kernel
theorem dX13_clashes_1 : decode cX13_clashes 1 = .ok (.iconst 0, 1) := by decide +kernel
theorem dX13_clashes_2 : decode cX13_clashes 2 = .ok (.putfield 451, 3) := by decide +kernel
theorem dX13_clashes_5 : decode cX13_clashes 5 = .ok (.aload_n 0, 1) := by decide +kernel
theorem dX13_clashes_6 : decode cX13_clashes 6 = .ok (.getfield 1122, 3) := by decide +kernel
theorem dX13_clashes_9 : decode cX13_clashes 9 = .ok (.ifCond .eq 10, 3) := by decide +kernel
theorem dX13_clashes_19 : decode cX13_clashes 19 = .ok (.iconst 0, 1) := by decide +kernel
theorem dX13_clashes_20 : decode cX13_clashes 20 = .ok (.ireturn, 1) := by decide +kernel
set_option maxHeartbeats 4000000 in
set_option maxRecDepth 100000 in
/-- key -/
theorem c_M_key (l : Launch) (dC : Nat → ClassId) (dI : Nat → Nat → Nat) (h0 sz : Nat) (fs : List Value) (a1 : Int32) : Met l yX13_key (.code yX13_key cX13_key 4 (some .boolean) :: wP) ({ frames := 0, cells := 0, slots := 0, locals := 0 }) (va_Pc [.ref h0, .int a1] (fun U => U.heap.size = sz ∧ kJ 180 [(3, .int 0), (110, .int 0), (123, .int 0)] fs ∧ va_P (dC, dI) vwCl [(h0, .inr (13, fs))] U.heap ∧ va_K (dC, dI) vwCl [] U ∧ va_D (fun _ => True) [(h0, .inr (13, fs))])) (va_Qi (fun r (_ : Unit) => r = 0) (fun (_ : Unit) (_ : State) => True) (va_A [(h0, .inr (13, fs))] sz)) 0 0 (va_A [(h0, .inr (13, fs))] sz) := by
  refine Met.ofW (cc := cX13_key) (maxL := 4) (ret := (some .boolean)) (by decide) rfl ?_
  intro p e s m args below meth c s₁ B hml hv
  obtain ⟨rfl, hsz, hJ, hP, hK, hD0⟩ := hv
  have hx := B.exec
  have hb := B.bytes
  have hr := B.returns
  have hts := atoms_spec (ws := .code yX13_key cX13_key 4 (some .boolean) :: wP) B.pre
  have hown : s.vm.findClass RX13 = some m.cls := findClass_of_methodNamed B.named
  subst hsz
  have hD := hD0.self (sz := s.heap.size)
  generalize hAe : va_A [(h0, .inr (13, fs))] s.heap.size = A at hD ⊢
  have hA : ∀ q : Nat, s.heap.size ≤ q → A q := fun q h => by rw [← hAe]; exact Or.inr h
  have hS : va_S A s.heap s.heap [] := va_S.rf
  have hl := lv_entry ([.ref h0, .int a1]) (n := 4) (Nat.le_of_ble_eq_true rfl)
  rw [lg_entry_eq]
  generalize (lg_sl ([.ref h0, .int a1]) ++ List.replicate (4 - (lg_sl ([.ref h0, .int a1])).length) Slot.unset).toArray = ls at hl ⊢
  have hl : lv_has ls 4 [(0, .ref h0), (1, .int a1)] := hl
  refine lv_aload_n hx hb dX13_key_0 rfl (lv_at hl 0 rfl) ?_
  refine lv_iconst (v := 0) hx hb dX13_key_1 (by decide) ?_
  refine kq_put [(1, .int 0), (3, .int 0), (110, .int 0), (123, .int 0)] hts iX13 tyX13 tyX13_ok nmX13 hx hb hown hK hP hD hS 0 rfl rfl hJ 1 (by decide) (by decide) (hts _ (bP 135 rfl)) rfl (ty := .int) (by decide +kernel) (v := .int 0) rfl rfl dX13_key_2 (fun f h => kJ_put h _ _ (by decide)) (fun H locs fs hJ hP hD hS => ?_)
  have hP : va_P (dC, dI) vwCl [(h0, .inr (13, fs))] H := hP
  have hD : va_D A [(h0, .inr (13, fs))] := hD
  refine lv_aload_n hx hb dX13_key_5 rfl (lv_at hl 0 rfl) ?_
  refine va_get (D := (dC, dI)) (ci := 13) (v := .int 0) (C := RX13) (T := TX13) (N := 180) hx hb hts iX13 hown hK hP 0 rfl rfl 123 (by decide) (hts _ (bP 136 rfl)) (fun _ h9 => h9) (kJ_at hJ 3 rfl) dX13_key_6 ?_
  refine lv_if_eq (tgt := 22) hx hb dX13_key_9 (by decide) (fun _ => ?_) (fun h => absurd h (by decide))
  refine lv_iconst (v := 0) hx hb dX13_key_22 (by decide) ?_
  exact W.zret (v := 0) hx hb hr (by decide) (fun t ht hW => ⟨⟨0, (), rfl, rfl, trivial⟩, hS.F ht⟩) hS.2.2 dX13_key_23
set_option maxHeartbeats 4000000 in
set_option maxRecDepth 100000 in
/-- output -/
theorem c_M_output (l : Launch) (dC : Nat → ClassId) (dI : Nat → Nat → Nat) (h0 sz : Nat) (fs : List Value) (a1 : Int32) : Met l yX13_output (.code yX13_output cX13_output 2 (some .int) :: wP) ({ frames := 0, cells := 0, slots := 0, locals := 0 }) (va_Pc [.ref h0, .int a1] (fun U => U.heap.size = sz ∧ kJ 180 [(3, .int 0), (110, .int 0), (123, .int 0)] fs ∧ va_P (dC, dI) vwCl [(h0, .inr (13, fs))] U.heap ∧ va_K (dC, dI) vwCl [] U ∧ va_D (fun _ => True) [(h0, .inr (13, fs))])) (va_Qi (fun r (_ : Unit) => r = -1) (fun (_ : Unit) (_ : State) => True) (va_A [(h0, .inr (13, fs))] sz)) 0 0 (va_A [(h0, .inr (13, fs))] sz) := by
  refine Met.ofW (cc := cX13_output) (maxL := 2) (ret := (some .int)) (by decide) rfl ?_
  intro p e s m args below meth c s₁ B hml hv
  obtain ⟨rfl, hsz, hJ, hP, hK, hD0⟩ := hv
  have hx := B.exec
  have hb := B.bytes
  have hr := B.returns
  have hts := atoms_spec (ws := .code yX13_output cX13_output 2 (some .int) :: wP) B.pre
  have hown : s.vm.findClass RX13 = some m.cls := findClass_of_methodNamed B.named
  subst hsz
  have hD := hD0.self (sz := s.heap.size)
  generalize hAe : va_A [(h0, .inr (13, fs))] s.heap.size = A at hD ⊢
  have hA : ∀ q : Nat, s.heap.size ≤ q → A q := fun q h => by rw [← hAe]; exact Or.inr h
  have hS : va_S A s.heap s.heap [] := va_S.rf
  have hl := lv_entry ([.ref h0, .int a1]) (n := 2) (Nat.le_of_ble_eq_true rfl)
  rw [lg_entry_eq]
  generalize (lg_sl ([.ref h0, .int a1]) ++ List.replicate (2 - (lg_sl ([.ref h0, .int a1])).length) Slot.unset).toArray = ls at hl ⊢
  have hl : lv_has ls 2 [(0, .ref h0), (1, .int a1)] := hl
  refine lv_aload_n hx hb dX13_output_0 rfl (lv_at hl 0 rfl) ?_
  refine lv_iconst (v := 0) hx hb dX13_output_1 (by decide) ?_
  refine kq_put [(1, .int 0), (3, .int 0), (110, .int 0), (123, .int 0)] hts iX13 tyX13 tyX13_ok nmX13 hx hb hown hK hP hD hS 0 rfl rfl hJ 1 (by decide) (by decide) (hts _ (bP 135 rfl)) rfl (ty := .int) (by decide +kernel) (v := .int 0) rfl rfl dX13_output_2 (fun f h => kJ_put h _ _ (by decide)) (fun H locs fs hJ hP hD hS => ?_)
  have hP : va_P (dC, dI) vwCl [(h0, .inr (13, fs))] H := hP
  have hD : va_D A [(h0, .inr (13, fs))] := hD
  refine lv_aload_n hx hb dX13_output_5 rfl (lv_at hl 0 rfl) ?_
  refine va_get (D := (dC, dI)) (ci := 13) (v := .int 0) (C := RX13) (T := TX13) (N := 180) hx hb hts iX13 hown hK hP 0 rfl rfl 123 (by decide) (hts _ (bP 136 rfl)) (fun _ h9 => h9) (kJ_at hJ 3 rfl) dX13_output_6 ?_
  refine lv_if_eq (tgt := 24) hx hb dX13_output_9 (by decide) (fun _ => ?_) (fun h => absurd h (by decide))
  refine lv_iconst (v := (-1)) hx hb dX13_output_24 (by decide) ?_
  refine lv_goto (tgt := 34) hx hb dX13_output_25 (by decide) ?_
  exact W.iret (v := (-1)) hx hb hr (fun t ht hW => ⟨⟨(-1), (), rfl, rfl, trivial⟩, hS.F ht⟩) hS.2.2 dX13_output_34
set_option maxHeartbeats 4000000 in
set_option maxRecDepth 100000 in
/-- cell -/
theorem c_M_cell (l : Launch) (dC : Nat → ClassId) (dI : Nat → Nat → Nat) (h0 sz : Nat) (fs : List Value) (a1 : Int32) : Met l yX13_cell (.code yX13_cell cX13_cell 7 (some .int) :: wP) ({ frames := 0, cells := 0, slots := 0, locals := 0 }) (va_Pc [.ref h0, .int a1] (fun U => U.heap.size = sz ∧ kJ 180 [(3, .int 0), (110, .int 0), (123, .int 0)] fs ∧ va_P (dC, dI) vwCl [(h0, .inr (13, fs))] U.heap ∧ va_K (dC, dI) vwCl [] U ∧ va_D (fun _ => True) [(h0, .inr (13, fs))])) (va_Qi (fun r (_ : Unit) => r = 0) (fun (_ : Unit) (_ : State) => True) (va_A [(h0, .inr (13, fs))] sz)) 0 0 (va_A [(h0, .inr (13, fs))] sz) := by
  refine Met.ofW (cc := cX13_cell) (maxL := 7) (ret := (some .int)) (by decide) rfl ?_
  intro p e s m args below meth c s₁ B hml hv
  obtain ⟨rfl, hsz, hJ, hP, hK, hD0⟩ := hv
  have hx := B.exec
  have hb := B.bytes
  have hr := B.returns
  have hts := atoms_spec (ws := .code yX13_cell cX13_cell 7 (some .int) :: wP) B.pre
  have hown : s.vm.findClass RX13 = some m.cls := findClass_of_methodNamed B.named
  subst hsz
  have hD := hD0.self (sz := s.heap.size)
  generalize hAe : va_A [(h0, .inr (13, fs))] s.heap.size = A at hD ⊢
  have hA : ∀ q : Nat, s.heap.size ≤ q → A q := fun q h => by rw [← hAe]; exact Or.inr h
  have hS : va_S A s.heap s.heap [] := va_S.rf
  have hl := lv_entry ([.ref h0, .int a1]) (n := 7) (Nat.le_of_ble_eq_true rfl)
  rw [lg_entry_eq]
  generalize (lg_sl ([.ref h0, .int a1]) ++ List.replicate (7 - (lg_sl ([.ref h0, .int a1])).length) Slot.unset).toArray = ls at hl ⊢
  have hl : lv_has ls 7 [(0, .ref h0), (1, .int a1)] := hl
  refine lv_aload_n hx hb dX13_cell_0 rfl (lv_at hl 0 rfl) ?_
  refine lv_iconst (v := 0) hx hb dX13_cell_1 (by decide) ?_
  refine kq_put [(1, .int 0), (3, .int 0), (110, .int 0), (123, .int 0)] hts iX13 tyX13 tyX13_ok nmX13 hx hb hown hK hP hD hS 0 rfl rfl hJ 1 (by decide) (by decide) (hts _ (bP 135 rfl)) rfl (ty := .int) (by decide +kernel) (v := .int 0) rfl rfl dX13_cell_2 (fun f h => kJ_put h _ _ (by decide)) (fun H locs fs hJ hP hD hS => ?_)
  have hP : va_P (dC, dI) vwCl [(h0, .inr (13, fs))] H := hP
  have hD : va_D A [(h0, .inr (13, fs))] := hD
  refine lv_aload_n hx hb dX13_cell_5 rfl (lv_at hl 0 rfl) ?_
  refine va_get (D := (dC, dI)) (ci := 13) (v := .int 0) (C := RX13) (T := TX13) (N := 180) hx hb hts iX13 hown hK hP 0 rfl rfl 123 (by decide) (hts _ (bP 136 rfl)) (fun _ h9 => h9) (kJ_at hJ 3 rfl) dX13_cell_6 ?_
  refine lv_if_eq (tgt := 23) hx hb dX13_cell_9 (by decide) (fun _ => ?_) (fun h => absurd h (by decide))
  refine lv_iconst (v := 0) hx hb dX13_cell_23 (by decide) ?_
  exact W.iret (v := 0) hx hb hr (fun t ht hW => ⟨⟨0, (), rfl, rfl, trivial⟩, hS.F ht⟩) hS.2.2 dX13_cell_24
set_option maxHeartbeats 4000000 in
set_option maxRecDepth 100000 in
/-- meeting -/
theorem c_M_meeting (l : Launch) (dC : Nat → ClassId) (dI : Nat → Nat → Nat) (h0 sz : Nat) (fs : List Value) (a1 : Int32) (a2 : Int32) : Met l yX13_meeting (.code yX13_meeting cX13_meeting 3 (some .int) :: wP) ({ frames := 0, cells := 0, slots := 0, locals := 0 }) (va_Pc [.ref h0, .int a1, .int a2] (fun U => U.heap.size = sz ∧ kJ 180 [(3, .int 0), (110, .int 0), (123, .int 0)] fs ∧ va_P (dC, dI) vwCl [(h0, .inr (13, fs))] U.heap ∧ va_K (dC, dI) vwCl [] U ∧ va_D (fun _ => True) [(h0, .inr (13, fs))])) (va_Qi (fun r (_ : Unit) => r = -1) (fun (_ : Unit) (_ : State) => True) (va_A [(h0, .inr (13, fs))] sz)) 0 0 (va_A [(h0, .inr (13, fs))] sz) := by
  refine Met.ofW (cc := cX13_meeting) (maxL := 3) (ret := (some .int)) (by decide) rfl ?_
  intro p e s m args below meth c s₁ B hml hv
  obtain ⟨rfl, hsz, hJ, hP, hK, hD0⟩ := hv
  have hx := B.exec
  have hb := B.bytes
  have hr := B.returns
  have hts := atoms_spec (ws := .code yX13_meeting cX13_meeting 3 (some .int) :: wP) B.pre
  have hown : s.vm.findClass RX13 = some m.cls := findClass_of_methodNamed B.named
  subst hsz
  have hD := hD0.self (sz := s.heap.size)
  generalize hAe : va_A [(h0, .inr (13, fs))] s.heap.size = A at hD ⊢
  have hA : ∀ q : Nat, s.heap.size ≤ q → A q := fun q h => by rw [← hAe]; exact Or.inr h
  have hS : va_S A s.heap s.heap [] := va_S.rf
  have hl := lv_entry ([.ref h0, .int a1, .int a2]) (n := 3) (Nat.le_of_ble_eq_true rfl)
  rw [lg_entry_eq]
  generalize (lg_sl ([.ref h0, .int a1, .int a2]) ++ List.replicate (3 - (lg_sl ([.ref h0, .int a1, .int a2])).length) Slot.unset).toArray = ls at hl ⊢
  have hl : lv_has ls 3 [(0, .ref h0), (1, .int a1), (2, .int a2)] := hl
  refine lv_aload_n hx hb dX13_meeting_0 rfl (lv_at hl 0 rfl) ?_
  refine lv_iconst (v := 0) hx hb dX13_meeting_1 (by decide) ?_
  refine kq_put [(1, .int 0), (3, .int 0), (110, .int 0), (123, .int 0)] hts iX13 tyX13 tyX13_ok nmX13 hx hb hown hK hP hD hS 0 rfl rfl hJ 1 (by decide) (by decide) (hts _ (bP 135 rfl)) rfl (ty := .int) (by decide +kernel) (v := .int 0) rfl rfl dX13_meeting_2 (fun f h => kJ_put h _ _ (by decide)) (fun H locs fs hJ hP hD hS => ?_)
  have hP : va_P (dC, dI) vwCl [(h0, .inr (13, fs))] H := hP
  have hD : va_D A [(h0, .inr (13, fs))] := hD
  refine lv_aload_n hx hb dX13_meeting_5 rfl (lv_at hl 0 rfl) ?_
  refine va_get (D := (dC, dI)) (ci := 13) (v := .int 0) (C := RX13) (T := TX13) (N := 180) hx hb hts iX13 hown hK hP 0 rfl rfl 123 (by decide) (hts _ (bP 136 rfl)) (fun _ h9 => h9) (kJ_at hJ 3 rfl) dX13_meeting_6 ?_
  refine lv_if_eq (tgt := 40) hx hb dX13_meeting_9 (by decide) (fun _ => ?_) (fun h => absurd h (by decide))
  refine lv_iconst (v := (-1)) hx hb dX13_meeting_40 (by decide) ?_
  exact W.iret (v := (-1)) hx hb hr (fun t ht hW => ⟨⟨(-1), (), rfl, rfl, trivial⟩, hS.F ht⟩) hS.2.2 dX13_meeting_41
set_option maxHeartbeats 4000000 in
set_option maxRecDepth 100000 in
/-- clashes -/
theorem c_M_clashes (l : Launch) (dC : Nat → ClassId) (dI : Nat → Nat → Nat) (h0 sz : Nat) (fs : List Value) : Met l yX13_clashes (.code yX13_clashes cX13_clashes 1 (some .int) :: wP) ({ frames := 0, cells := 0, slots := 0, locals := 0 }) (va_Pc [.ref h0] (fun U => U.heap.size = sz ∧ kJ 180 [(3, .int 0), (110, .int 0), (123, .int 0)] fs ∧ va_P (dC, dI) vwCl [(h0, .inr (13, fs))] U.heap ∧ va_K (dC, dI) vwCl [] U ∧ va_D (fun _ => True) [(h0, .inr (13, fs))])) (va_Qi (fun r (_ : Unit) => r = 0) (fun (_ : Unit) (_ : State) => True) (va_A [(h0, .inr (13, fs))] sz)) 0 0 (va_A [(h0, .inr (13, fs))] sz) := by
  refine Met.ofW (cc := cX13_clashes) (maxL := 1) (ret := (some .int)) (by decide) rfl ?_
  intro p e s m args below meth c s₁ B hml hv
  obtain ⟨rfl, hsz, hJ, hP, hK, hD0⟩ := hv
  have hx := B.exec
  have hb := B.bytes
  have hr := B.returns
  have hts := atoms_spec (ws := .code yX13_clashes cX13_clashes 1 (some .int) :: wP) B.pre
  have hown : s.vm.findClass RX13 = some m.cls := findClass_of_methodNamed B.named
  subst hsz
  have hD := hD0.self (sz := s.heap.size)
  generalize hAe : va_A [(h0, .inr (13, fs))] s.heap.size = A at hD ⊢
  have hA : ∀ q : Nat, s.heap.size ≤ q → A q := fun q h => by rw [← hAe]; exact Or.inr h
  have hS : va_S A s.heap s.heap [] := va_S.rf
  have hl := lv_entry ([.ref h0]) (n := 1) (Nat.le_of_ble_eq_true rfl)
  rw [lg_entry_eq]
  generalize (lg_sl ([.ref h0]) ++ List.replicate (1 - (lg_sl ([.ref h0])).length) Slot.unset).toArray = ls at hl ⊢
  have hl : lv_has ls 1 [(0, .ref h0)] := hl
  refine lv_aload_n hx hb dX13_clashes_0 rfl (lv_at hl 0 rfl) ?_
  refine lv_iconst (v := 0) hx hb dX13_clashes_1 (by decide) ?_
  refine kq_put [(1, .int 0), (3, .int 0), (110, .int 0), (123, .int 0)] hts iX13 tyX13 tyX13_ok nmX13 hx hb hown hK hP hD hS 0 rfl rfl hJ 1 (by decide) (by decide) (hts _ (bP 135 rfl)) rfl (ty := .int) (by decide +kernel) (v := .int 0) rfl rfl dX13_clashes_2 (fun f h => kJ_put h _ _ (by decide)) (fun H locs fs hJ hP hD hS => ?_)
  have hP : va_P (dC, dI) vwCl [(h0, .inr (13, fs))] H := hP
  have hD : va_D A [(h0, .inr (13, fs))] := hD
  refine lv_aload_n hx hb dX13_clashes_5 rfl (lv_at hl 0 rfl) ?_
  refine va_get (D := (dC, dI)) (ci := 13) (v := .int 0) (C := RX13) (T := TX13) (N := 180) hx hb hts iX13 hown hK hP 0 rfl rfl 123 (by decide) (hts _ (bP 136 rfl)) (fun _ h9 => h9) (kJ_at hJ 3 rfl) dX13_clashes_6 ?_
  refine lv_if_eq (tgt := 19) hx hb dX13_clashes_9 (by decide) (fun _ => ?_) (fun h => absurd h (by decide))
  refine lv_iconst (v := 0) hx hb dX13_clashes_19 (by decide) ?_
  exact W.iret (v := 0) hx hb hr (fun t ht hW => ⟨⟨0, (), rfl, rfl, trivial⟩, hS.F ht⟩) hS.2.2 dX13_clashes_20
end
section
/-! More of the reference on a fresh object -/
theorem dX13_thrown_0 : decode cX13_thrown 0 = .ok (.aload_n 0, 1) := by decide +kernel
theorem dX13_thrown_1 : decode cX13_thrown 1 = .ok (.getfield 451, 3) := by decide +kernel
theorem dX13_thrown_4 : decode cX13_thrown 4 = .ok (.ireturn, 1) := by decide +kernel
theorem dX13_back_0 : decode cX13_back 0 = .ok (.aload_n 0, 1) := by decide +kernel
theorem dX13_back_1 : decode cX13_back 1 = .ok (.iconst 0, 1) := by decide +kernel
theorem dX13_back_2 : decode cX13_back 2 = .ok (.putfield 451, 3) := by decide +kernel
theorem dX13_back_5 : decode cX13_back 5 = .ok (.iload_n 1, 1) := by decide +kernel
theorem dX13_back_6 : decode cX13_back 6 = .ok (.ifCond .lt 11, 3) := by decide +kernel
theorem dX13_back_9 : decode cX13_back 9 = .ok (.iload_n 1, 1) := by decide +kernel
theorem dX13_back_10 : decode cX13_back 10 = .ok (.aload_n 0, 1) := by decide +kernel
theorem dX13_back_11 : decode cX13_back 11 = .ok (.getfield 455, 3) := by decide +kernel
theorem dX13_back_14 : decode cX13_back 14 = .ok (.if_icmp .le 5, 3) := by decide +kernel
theorem dX13_back_17 : decode cX13_back 17 = .ok (.iconst (-1), 1) := by decide +kernel
theorem dX13_back_18 : decode cX13_back 18 = .ok (.ireturn, 1) := by decide +kernel
theorem dX13_back_19 : decode cX13_back 19 = .ok (.aload_n 0, 1) := by decide +kernel
theorem dX13_back_20 : decode cX13_back 20 = .ok (.dup, 1) := by decide +kernel
theorem dX13_back_21 : decode cX13_back 21 = .ok (.getfield 455, 3) := by decide +kernel
theorem dX13_back_24 : decode cX13_back 24 = .ok (.iload_n 1, 1) := by decide +kernel
theorem dX13_back_25 : decode cX13_back 25 = .ok (.isub, 1) := by decide +kernel
theorem dX13_back_26 : decode cX13_back 26 = .ok (.putfield 455, 3) := by decide +kernel
theorem dX13_back_29 : decode cX13_back 29 = .ok (.aload_n 0, 1) := by decide +kernel
theorem dX13_back_30 : decode cX13_back 30 = .ok (.getfield 455, 3) := by decide +kernel
theorem dX13_back_33 : decode cX13_back 33 = .ok (.ireturn, 1) := by decide +kernel
theorem dX13_state_0 : decode cX13_state 0 = .ok (.aload_n 0, 1) := by decide +kernel
theorem dX13_state_1 : decode cX13_state 1 = .ok (.getfield 1122, 3) := by decide +kernel
theorem dX13_state_4 : decode cX13_state 4 = .ok (.ifCond .ne 5, 3) := by decide +kernel
theorem dX13_state_7 : decode cX13_state 7 = .ok (.iconst 0, 1) := by decide +kernel
theorem dX13_state_8 : decode cX13_state 8 = .ok (.ireturn, 1) := by decide +kernel
theorem dX13_begin_0 : decode cX13_begin 0 = .ok (.aload_n 0, 1) := by decide +kernel
theorem dX13_begin_1 : decode cX13_begin 1 = .ok (.aload_n 0, 1) := by decide +kernel
theorem dX13_begin_2 : decode cX13_begin 2 = .ok (.getfield 1119, 3) := by decide +kernel
theorem dX13_begin_5 : decode cX13_begin 5 = .ok (.ifCond .eq 7, 3) := by decide +kernel
theorem dX13_begin_12 : decode cX13_begin 12 = .ok (.iconst 1, 1) := by decide +kernel
theorem dX13_begin_13 : decode cX13_begin 13 = .ok (.putfield 451, 3) := by decide +kernel
theorem dX13_begin_16 : decode cX13_begin 16 = .ok (.aload_n 0, 1) := by decide +kernel
theorem dX13_begin_17 : decode cX13_begin 17 = .ok (.getfield 451, 3) := by decide +kernel
theorem dX13_begin_20 : decode cX13_begin 20 = .ok (.ifCond .le 4, 3) := by decide +kernel
theorem dX13_begin_23 : decode cX13_begin 23 = .ok (.return_, 1) := by decide +kernel
theorem dX13_run_0 : decode cX13_run 0 = .ok (.aload_n 0, 1) := by decide +kernel
theorem dX13_run_1 : decode cX13_run 1 = .ok (.iload_n 1, 1) := by decide +kernel
theorem dX13_run_2 : decode cX13_run 2 = .ok (.ifCond .lt 10, 3) := by decide +kernel
theorem dX13_run_5 : decode cX13_run 5 = .ok (.iload_n 1, 1) := by decide +kernel
theorem dX13_run_6 : decode cX13_run 6 = .ok (.sipush 2000, 3) := by decide +kernel
theorem dX13_run_9 : decode cX13_run 9 = .ok (.if_icmp .le 7, 3) := by decide +kernel
theorem dX13_run_12 : decode cX13_run 12 = .ok (.iconst 1, 1) := by decide +kernel
theorem dX13_run_13 : decode cX13_run 13 = .ok (.goto 15, 3) := by decide +kernel
theorem dX13_run_16 : decode cX13_run 16 = .ok (.aload_n 0, 1) := by decide +kernel
theorem dX13_run_17 : decode cX13_run 17 = .ok (.getfield 1122, 3) := by decide +kernel
theorem dX13_run_20 : decode cX13_run 20 = .ok (.ifCond .ne 7, 3) := by decide +kernel
theorem dX13_run_23 : decode cX13_run 23 = .ok (.iconst 2, 1) := by decide +kernel
theorem dX13_run_24 : decode cX13_run 24 = .ok (.goto 4, 3) := by decide +kernel
theorem dX13_run_28 : decode cX13_run 28 = .ok (.putfield 451, 3) := by decide +kernel
theorem dX13_run_31 : decode cX13_run 31 = .ok (.aload_n 0, 1) := by decide +kernel
theorem dX13_run_32 : decode cX13_run 32 = .ok (.getfield 451, 3) := by decide +kernel
theorem dX13_run_35 : decode cX13_run 35 = .ok (.ifCond .le 5, 3) := by decide +kernel
theorem dX13_run_38 : decode cX13_run 38 = .ok (.iconst 0, 1) := by decide +kernel
theorem dX13_run_39 : decode cX13_run 39 = .ok (.ireturn, 1) := by decide +kernel
theorem dX13_count_0 : decode cX13_count 0 = .ok (.aload_n 0, 1) := by decide +kernel
theorem dX13_count_1 : decode cX13_count 1 = .ok (.iconst 0, 1) := by decide +kernel
theorem dX13_count_2 : decode cX13_count 2 = .ok (.putfield 451, 3) := by decide +kernel
theorem dX13_count_5 : decode cX13_count 5 = .ok (.iload_n 1, 1) := by decide +kernel
theorem dX13_count_6 : decode cX13_count 6 = .ok (.iconst 5, 1) := by decide +kernel
theorem dX13_count_7 : decode cX13_count 7 = .ok (.if_icmp .lt 23, 3) := by decide +kernel
theorem dX13_count_10 : decode cX13_count 10 = .ok (.iload_n 1, 1) := by decide +kernel
theorem dX13_count_11 : decode cX13_count 11 = .ok (.bipush 13, 2) := by decide +kernel
theorem dX13_count_13 : decode cX13_count 13 = .ok (.if_icmp .gt 17, 3) := by decide +kernel
theorem dX13_count_16 : decode cX13_count 16 = .ok (.iload_n 1, 1) := by decide +kernel
theorem dX13_count_17 : decode cX13_count 17 = .ok (.iconst 4, 1) := by decide +kernel
theorem dX13_count_18 : decode cX13_count 18 = .ok (.if_icmp .eq 12, 3) := by decide +kernel
theorem dX13_count_21 : decode cX13_count 21 = .ok (.aload_n 0, 1) := by decide +kernel
theorem dX13_count_22 : decode cX13_count 22 = .ok (.getfield 1122, 3) := by decide +kernel
theorem dX13_count_25 : decode cX13_count 25 = .ok (.ifCond .ne 5, 3) := by decide +kernel
theorem dX13_count_28 : decode cX13_count 28 = .ok (.iconst 0, 1) := by decide +kernel
theorem dX13_count_29 : decode cX13_count 29 = .ok (.ireturn, 1) := by decide +kernel
theorem dX13_count_30 : decode cX13_count 30 = .ok (.iload_n 1, 1) := by decide +kernel
theorem dX13_count_31 : decode cX13_count 31 = .ok (.tableswitch 211 0 13 #[69, 85, 101, 117, 122, 127, 132, 137, 142, 147, 152, 157, 162, 167], 69) := by decide +kernel
theorem dX13_count_100 : decode cX13_count 100 = .ok (.aload_n 0, 1) := by decide +kernel
theorem dX13_count_101 : decode cX13_count 101 = .ok (.getfield 1119, 3) := by decide +kernel
theorem dX13_count_104 : decode cX13_count 104 = .ok (.ifCond .eq 10, 3) := by decide +kernel
theorem dX13_count_114 : decode cX13_count 114 = .ok (.iconst 0, 1) := by decide +kernel
theorem dX13_count_115 : decode cX13_count 115 = .ok (.ireturn, 1) := by decide +kernel
theorem dX13_count_116 : decode cX13_count 116 = .ok (.aload_n 0, 1) := by decide +kernel
theorem dX13_count_117 : decode cX13_count 117 = .ok (.getfield 1119, 3) := by decide +kernel
theorem dX13_count_120 : decode cX13_count 120 = .ok (.ifCond .eq 10, 3) := by decide +kernel
theorem dX13_count_130 : decode cX13_count 130 = .ok (.iconst 0, 1) := by decide +kernel
theorem dX13_count_131 : decode cX13_count 131 = .ok (.ireturn, 1) := by decide +kernel
theorem dX13_count_132 : decode cX13_count 132 = .ok (.aload_n 0, 1) := by decide +kernel
theorem dX13_count_133 : decode cX13_count 133 = .ok (.getfield 1119, 3) := by decide +kernel
theorem dX13_count_136 : decode cX13_count 136 = .ok (.ifCond .eq 10, 3) := by decide +kernel
theorem dX13_count_146 : decode cX13_count 146 = .ok (.iconst 0, 1) := by decide +kernel
theorem dX13_count_147 : decode cX13_count 147 = .ok (.ireturn, 1) := by decide +kernel
theorem dX13_count_148 : decode cX13_count 148 = .ok (.aload_n 0, 1) := by decide +kernel
theorem dX13_count_149 : decode cX13_count 149 = .ok (.getfield 455, 3) := by decide +kernel
theorem dX13_count_152 : decode cX13_count 152 = .ok (.ireturn, 1) := by decide +kernel
theorem dX13_count_153 : decode cX13_count 153 = .ok (.aload_n 0, 1) := by decide +kernel
theorem dX13_count_154 : decode cX13_count 154 = .ok (.invokevirtual 1501, 3) := by decide +kernel
theorem dX13_count_157 : decode cX13_count 157 = .ok (.ireturn, 1) := by decide +kernel
theorem dX13_count_242 : decode cX13_count 242 = .ok (.iconst (-1), 1) := by decide +kernel
theorem dX13_count_243 : decode cX13_count 243 = .ok (.ireturn, 1) := by decide +kernel
theorem dX13_process__0 : decode cX13_process_ 0 = .ok (.aload_n 0, 1) := by decide +kernel
theorem dX13_process__1 : decode cX13_process_ 1 = .ok (.iconst 0, 1) := by decide +kernel
theorem dX13_process__2 : decode cX13_process_ 2 = .ok (.putfield 451, 3) := by decide +kernel
theorem dX13_process__5 : decode cX13_process_ 5 = .ok (.aload_n 0, 1) := by decide +kernel
theorem dX13_process__6 : decode cX13_process_ 6 = .ok (.getfield 1122, 3) := by decide +kernel
theorem dX13_process__9 : decode cX13_process_ 9 = .ok (.ifCond .eq 11, 3) := by decide +kernel
theorem dX13_process__20 : decode cX13_process_ 20 = .ok (.iconst (-1), 1) := by decide +kernel
theorem dX13_process__21 : decode cX13_process_ 21 = .ok (.istore_n 3, 1) := by decide +kernel
theorem dX13_process__22 : decode cX13_process_ 22 = .ok (.iload_n 3, 1) := by decide +kernel
theorem dX13_process__23 : decode cX13_process_ 23 = .ok (.ifCond .ge 5, 3) := by decide +kernel
theorem dX13_process__26 : decode cX13_process_ 26 = .ok (.iconst (-1), 1) := by decide +kernel
theorem dX13_process__27 : decode cX13_process_ 27 = .ok (.ireturn, 1) := by decide +kernel
set_option maxHeartbeats 4000000 in
set_option maxRecDepth 100000 in
/-- process_ -/
theorem c_M_process_ (l : Launch) (dC : Nat → ClassId) (dI : Nat → Nat → Nat) (h0 sz : Nat) (fs : List Value) (a1 : Int32) (a2 : Int32) : Met l yX13_process_ (.code yX13_process_ cX13_process_ 5 (some .int) :: wP) ({ frames := 0, cells := 0, slots := 0, locals := 0 }) (va_Pc [.ref h0, .int a1, .int a2] (fun U => U.heap.size = sz ∧ kJ 180 [(3, .int 0), (110, .int 0), (123, .int 0)] fs ∧ va_P (dC, dI) vwCl [(h0, .inr (13, fs))] U.heap ∧ va_K (dC, dI) vwCl [] U ∧ va_D (fun _ => True) [(h0, .inr (13, fs))])) (va_Qi (fun r (_ : Unit) => r = -1) (fun (_ : Unit) (_ : State) => True) (va_A [(h0, .inr (13, fs))] sz)) 0 0 (va_A [(h0, .inr (13, fs))] sz) := by
  refine Met.ofW (cc := cX13_process_) (maxL := 5) (ret := (some .int)) (by decide) rfl ?_
  intro p e s m args below meth c s₁ B hml hv
  obtain ⟨rfl, hsz, hJ, hP, hK, hD0⟩ := hv
  have hx := B.exec
  have hb := B.bytes
  have hr := B.returns
  have hts := atoms_spec (ws := .code yX13_process_ cX13_process_ 5 (some .int) :: wP) B.pre
  have hown : s.vm.findClass RX13 = some m.cls := findClass_of_methodNamed B.named
  subst hsz
  have hD := hD0.self (sz := s.heap.size)
  generalize hAe : va_A [(h0, .inr (13, fs))] s.heap.size = A at hD ⊢
  have hA : ∀ q : Nat, s.heap.size ≤ q → A q := fun q h => by rw [← hAe]; exact Or.inr h
  have hS : va_S A s.heap s.heap [] := va_S.rf
  have hl := lv_entry ([.ref h0, .int a1, .int a2]) (n := 5) (Nat.le_of_ble_eq_true rfl)
  rw [lg_entry_eq]
  generalize (lg_sl ([.ref h0, .int a1, .int a2]) ++ List.replicate (5 - (lg_sl ([.ref h0, .int a1, .int a2])).length) Slot.unset).toArray = ls at hl ⊢
  have hl : lv_has ls 5 [(0, .ref h0), (1, .int a1), (2, .int a2)] := hl
  refine lv_aload_n hx hb dX13_process__0 rfl (lv_at hl 0 rfl) ?_
  refine lv_iconst (v := 0) hx hb dX13_process__1 (by decide) ?_
  refine kq_put [(1, .int 0), (3, .int 0), (110, .int 0), (123, .int 0)] hts iX13 tyX13 tyX13_ok nmX13 hx hb hown hK hP hD hS 0 rfl rfl hJ 1 (by decide) (by decide) (hts _ (bP 135 rfl)) rfl (ty := .int) (by decide +kernel) (v := .int 0) rfl rfl dX13_process__2 (fun f h => kJ_put h _ _ (by decide)) (fun H locs fs hJ hP hD hS => ?_)
  have hP : va_P (dC, dI) vwCl [(h0, .inr (13, fs))] H := hP
  have hD : va_D A [(h0, .inr (13, fs))] := hD
  refine lv_aload_n hx hb dX13_process__5 rfl (lv_at hl 0 rfl) ?_
  refine va_get (D := (dC, dI)) (ci := 13) (v := .int 0) (C := RX13) (T := TX13) (N := 180) hx hb hts iX13 hown hK hP 0 rfl rfl 123 (by decide) (hts _ (bP 136 rfl)) (fun _ h9 => h9) (kJ_at hJ 3 rfl) dX13_process__6 ?_
  refine lv_if_eq (tgt := 20) hx hb dX13_process__9 (by decide) (fun _ => ?_) (fun h => absurd h (by decide))
  refine lv_iconst (v := (-1)) hx hb dX13_process__20 (by decide) ?_
  refine lv_istore_n (lv' := [(3, .int ((-1))), (0, .ref h0), (1, .int a1), (2, .int a2)]) hx hb dX13_process__21 rfl hl (by decide) rfl (fun ls hl => ?_)
  refine lv_iload_n hx hb dX13_process__22 rfl (lv_at hl 0 rfl) ?_
  refine lv_if_ge (tgt := 28) hx hb dX13_process__23 (by decide) (fun h => absurd h (by decide)) (fun _ => ?_)
  refine lv_iconst (v := (-1)) hx hb dX13_process__26 (by decide) ?_
  exact W.iret (v := (-1)) hx hb hr (fun t ht hW => ⟨⟨(-1), (), rfl, rfl, trivial⟩, hS.F ht⟩) hS.2.2 dX13_process__27
set_option maxHeartbeats 4000000 in
set_option maxRecDepth 100000 in
/-- back -/
theorem c_M_back (l : Launch) (dC : Nat → ClassId) (dI : Nat → Nat → Nat) (h0 sz : Nat) (fs : List Value) (a1 : Int32) : Met l yX13_back (.code yX13_back cX13_back 2 (some .int) :: wP) ({ frames := 0, cells := 0, slots := 0, locals := 0 }) (va_Pc [.ref h0, .int a1] (fun U => U.heap.size = sz ∧ kJ 180 [(3, .int 0), (110, .int 0), (123, .int 0)] fs ∧ va_P (dC, dI) vwCl [(h0, .inr (13, fs))] U.heap ∧ va_K (dC, dI) vwCl [] U ∧ va_D (fun _ => True) [(h0, .inr (13, fs))])) (va_Qi (fun r (_ : Unit) => r = bk a1) (fun (_ : Unit) (_ : State) => True) (va_A [(h0, .inr (13, fs))] sz)) 0 0 (va_A [(h0, .inr (13, fs))] sz) := by
  refine Met.ofW (cc := cX13_back) (maxL := 2) (ret := (some .int)) (by decide) rfl ?_
  intro p e s m args below meth c s₁ B hml hv
  obtain ⟨rfl, hsz, hJ, hP, hK, hD0⟩ := hv
  have hx := B.exec
  have hb := B.bytes
  have hr := B.returns
  have hts := atoms_spec (ws := .code yX13_back cX13_back 2 (some .int) :: wP) B.pre
  have hown : s.vm.findClass RX13 = some m.cls := findClass_of_methodNamed B.named
  subst hsz
  have hD := hD0.self (sz := s.heap.size)
  generalize hAe : va_A [(h0, .inr (13, fs))] s.heap.size = A at hD ⊢
  have hA : ∀ q : Nat, s.heap.size ≤ q → A q := fun q h => by rw [← hAe]; exact Or.inr h
  have hS : va_S A s.heap s.heap [] := va_S.rf
  have hl := lv_entry ([.ref h0, .int a1]) (n := 2) (Nat.le_of_ble_eq_true rfl)
  rw [lg_entry_eq]
  generalize (lg_sl ([.ref h0, .int a1]) ++ List.replicate (2 - (lg_sl ([.ref h0, .int a1])).length) Slot.unset).toArray = ls at hl ⊢
  have hl : lv_has ls 2 [(0, .ref h0), (1, .int a1)] := hl
  refine lv_aload_n hx hb dX13_back_0 rfl (lv_at hl 0 rfl) ?_
  refine lv_iconst (v := 0) hx hb dX13_back_1 (by decide) ?_
  refine kq_put [(1, .int 0), (3, .int 0), (110, .int 0), (123, .int 0)] hts iX13 tyX13 tyX13_ok nmX13 hx hb hown hK hP hD hS 0 rfl rfl hJ 1 (by decide) (by decide) (hts _ (bP 135 rfl)) rfl (ty := .int) (by decide +kernel) (v := .int 0) rfl rfl dX13_back_2 (fun f h => kJ_put h _ _ (by decide)) (fun H locs fs hJ hP hD hS => ?_)
  have hP : va_P (dC, dI) vwCl [(h0, .inr (13, fs))] H := hP
  have hD : va_D A [(h0, .inr (13, fs))] := hD
  refine lv_iload_n hx hb dX13_back_5 rfl (lv_at hl 1 rfl) ?_
  refine lv_if_lt (tgt := 17) hx hb dX13_back_6 (by decide) (fun h6 => ?_) (fun h6 => ?_)
  · refine lv_iconst (v := (-1)) hx hb dX13_back_17 (by decide) ?_
    exact W.iret (v := (-1)) hx hb hr (fun t ht hW => ⟨⟨(-1), (), rfl, by first | exact bk1 h6 | exact bk2 h6 h14 ez1 | exact bk3 h14, trivial⟩, hS.F ht⟩) hS.2.2 dX13_back_18
  · refine lv_iload_n hx hb dX13_back_9 rfl (lv_at hl 1 rfl) ?_
    refine lv_aload_n hx hb dX13_back_10 rfl (lv_at hl 0 rfl) ?_
    refine va_get (D := (dC, dI)) (ci := 13) (v := .int 0) (C := RX13) (T := TX13) (N := 180) hx hb hts iX13 hown hK hP 0 rfl rfl 3 (by decide) (hts _ (bP 139 rfl)) (fun _ h9 => h9) (kJ_at hJ 1 rfl) dX13_back_11 ?_
    refine lv_icmp_le (tgt := 19) hx hb dX13_back_14 (by decide) (fun h14 => ?_) (fun h14 => ?_)
    · refine lv_aload_n hx hb dX13_back_19 rfl (lv_at hl 0 rfl) ?_
      refine lv_dup hx hb dX13_back_20 rfl ?_
      refine va_get (D := (dC, dI)) (ci := 13) (v := .int 0) (C := RX13) (T := TX13) (N := 180) hx hb hts iX13 hown hK hP 0 rfl rfl 3 (by decide) (hts _ (bP 139 rfl)) (fun _ h9 => h9) (kJ_at hJ 1 rfl) dX13_back_21 ?_
      refine lv_iload_n hx hb dX13_back_24 rfl (lv_at hl 1 rfl) ?_
      refine lv_isub hx hb dX13_back_25 ?_
      refine lv_topi (fun z1 ez1 => ?_)
      refine kq_put [(3, .int z1), (1, .int 0), (110, .int 0), (123, .int 0)] hts iX13 tyX13 tyX13_ok nmX13 hx hb hown hK hP hD hS 0 rfl rfl hJ 3 (by decide) (by decide) (hts _ (bP 139 rfl)) rfl (ty := .int) (by decide +kernel) (v := .int z1) rfl rfl dX13_back_26 (fun f h => kJ_put h _ _ (by decide)) (fun H locs fs hJ hP hD hS => ?_)
      have hP : va_P (dC, dI) vwCl [(h0, .inr (13, fs))] H := hP
      have hD : va_D A [(h0, .inr (13, fs))] := hD
      refine lv_aload_n hx hb dX13_back_29 rfl (lv_at hl 0 rfl) ?_
      refine va_get (D := (dC, dI)) (ci := 13) (v := .int z1) (C := RX13) (T := TX13) (N := 180) hx hb hts iX13 hown hK hP 0 rfl rfl 3 (by decide) (hts _ (bP 139 rfl)) (fun _ h9 => h9) (kJ_at hJ 0 rfl) dX13_back_30 ?_
      exact W.iret (v := z1) hx hb hr (fun t ht hW => ⟨⟨z1, (), rfl, by first | exact bk1 h6 | exact bk2 h6 h14 ez1 | exact bk3 h14, trivial⟩, hS.F ht⟩) hS.2.2 dX13_back_33
    · refine lv_iconst (v := (-1)) hx hb dX13_back_17 (by decide) ?_
      exact W.iret (v := (-1)) hx hb hr (fun t ht hW => ⟨⟨(-1), (), rfl, by first | exact bk1 h6 | exact bk2 h6 h14 ez1 | exact bk3 h14, trivial⟩, hS.F ht⟩) hS.2.2 dX13_back_18
set_option maxHeartbeats 4000000 in
set_option maxRecDepth 100000 in
/-- begin -/
theorem c_M_begin (l : Launch) (dC : Nat → ClassId) (dI : Nat → Nat → Nat) (h0 sz : Nat) (fs : List Value) (a1 : Int32) : Met l yX13_begin (.code yX13_begin cX13_begin 3 none :: wP) ({ frames := 0, cells := 0, slots := 0, locals := 0 }) (va_Pc [.ref h0, .int a1] (fun U => U.heap.size = sz ∧ kJ 180 [(3, .int 0), (110, .int 0), (123, .int 0)] fs ∧ va_P (dC, dI) vwCl [(h0, .inr (13, fs))] U.heap ∧ va_K (dC, dI) vwCl [] U ∧ va_D (fun _ => True) [(h0, .inr (13, fs))])) (va_Qv (fun u : List Value => kJ 180 [(1, .int 1)] u) (fun (u : List Value) (t : State) => va_P (dC, dI) vwCl [(h0, .inr (13, u))] t.heap ∧ va_K (dC, dI) vwCl [] t ∧ va_D (va_A [(h0, .inr (13, fs))] sz) [(h0, .inr (13, u))]) (va_A [(h0, .inr (13, fs))] sz)) 0 0 (va_A [(h0, .inr (13, fs))] sz) := by
  refine Met.ofW (cc := cX13_begin) (maxL := 3) (ret := none) (by decide) rfl ?_
  intro p e s m args below meth c s₁ B hml hv
  obtain ⟨rfl, hsz, hJ, hP, hK, hD0⟩ := hv
  have hx := B.exec
  have hb := B.bytes
  have hr := B.returns
  have hts := atoms_spec (ws := .code yX13_begin cX13_begin 3 none :: wP) B.pre
  have hown : s.vm.findClass RX13 = some m.cls := findClass_of_methodNamed B.named
  subst hsz
  have hD := hD0.self (sz := s.heap.size)
  generalize hAe : va_A [(h0, .inr (13, fs))] s.heap.size = A at hD ⊢
  have hA : ∀ q : Nat, s.heap.size ≤ q → A q := fun q h => by rw [← hAe]; exact Or.inr h
  have hS : va_S A s.heap s.heap [] := va_S.rf
  have hl := lv_entry ([.ref h0, .int a1]) (n := 3) (Nat.le_of_ble_eq_true rfl)
  rw [lg_entry_eq]
  generalize (lg_sl ([.ref h0, .int a1]) ++ List.replicate (3 - (lg_sl ([.ref h0, .int a1])).length) Slot.unset).toArray = ls at hl ⊢
  have hl : lv_has ls 3 [(0, .ref h0), (1, .int a1)] := hl
  refine lv_aload_n hx hb dX13_begin_0 rfl (lv_at hl 0 rfl) ?_
  refine lv_aload_n hx hb dX13_begin_1 rfl (lv_at hl 0 rfl) ?_
  refine va_get (D := (dC, dI)) (ci := 13) (v := .int 0) (C := RX13) (T := TX13) (N := 180) hx hb hts iX13 hown hK hP 0 rfl rfl 110 (by decide) (hts _ (bP 141 rfl)) (fun _ h9 => h9) (kJ_at hJ 1 rfl) dX13_begin_2 ?_
  refine lv_if_eq (tgt := 12) hx hb dX13_begin_5 (by decide) (fun _ => ?_) (fun h => absurd h (by decide))
  refine lv_iconst (v := 1) hx hb dX13_begin_12 (by decide) ?_
  refine kq_put [(1, .int 1), (3, .int 0), (110, .int 0), (123, .int 0)] hts iX13 tyX13 tyX13_ok nmX13 hx hb hown hK hP hD hS 0 rfl rfl hJ 1 (by decide) (by decide) (hts _ (bP 135 rfl)) rfl (ty := .int) (by decide +kernel) (v := .int 1) rfl rfl dX13_begin_13 (fun f h => kJ_put h _ _ (by decide)) (fun H locs fs hJ hP hD hS => ?_)
  have hP : va_P (dC, dI) vwCl [(h0, .inr (13, fs))] H := hP
  have hD : va_D A [(h0, .inr (13, fs))] := hD
  refine lv_aload_n hx hb dX13_begin_16 rfl (lv_at hl 0 rfl) ?_
  refine va_get (D := (dC, dI)) (ci := 13) (v := .int 1) (C := RX13) (T := TX13) (N := 180) hx hb hts iX13 hown hK hP 0 rfl rfl 1 (by decide) (hts _ (bP 135 rfl)) (fun _ h9 => h9) (kJ_at hJ 0 rfl) dX13_begin_17 ?_
  refine lv_if_le (tgt := 24) hx hb dX13_begin_20 (by decide) (fun h => absurd h (by decide)) (fun _ => ?_)
  exact W.vret hx hb hr (fun t ht hW => ⟨⟨fs, rfl, kJ_sub hJ (fun x hx => by rw [List.mem_singleton.mp hx]; exact List.mem_cons_self), by rw [ht]; exact hP, va_K.moved hW.alike hK, hD⟩, hS.F ht⟩) hS.2.2 dX13_begin_23
set_option maxHeartbeats 4000000 in
set_option maxRecDepth 100000 in
/-- run -/
theorem c_M_run (l : Launch) (dC : Nat → ClassId) (dI : Nat → Nat → Nat) (h0 sz : Nat) (fs : List Value) (a1 : Int32) : Met l yX13_run (.code yX13_run cX13_run 5 (some .int) :: wP) ({ frames := 0, cells := 0, slots := 0, locals := 0 }) (va_Pc [.ref h0, .int a1] (fun U => U.heap.size = sz ∧ kJ 180 [(3, .int 0), (110, .int 0), (123, .int 0)] fs ∧ va_P (dC, dI) vwCl [(h0, .inr (13, fs))] U.heap ∧ va_K (dC, dI) vwCl [] U ∧ va_D (fun _ => True) [(h0, .inr (13, fs))])) (va_Qi (fun (_ : Int32) (u : List Value) => kJ 180 [(1, .int (rc a1))] u) (fun (u : List Value) (t : State) => va_P (dC, dI) vwCl [(h0, .inr (13, u))] t.heap ∧ va_K (dC, dI) vwCl [] t ∧ va_D (va_A [(h0, .inr (13, fs))] sz) [(h0, .inr (13, u))]) (va_A [(h0, .inr (13, fs))] sz)) 0 0 (va_A [(h0, .inr (13, fs))] sz) := by
  refine Met.ofW (cc := cX13_run) (maxL := 5) (ret := (some .int)) (by decide) rfl ?_
  intro p e s m args below meth c s₁ B hml hv
  obtain ⟨rfl, hsz, hJ, hP, hK, hD0⟩ := hv
  have hx := B.exec
  have hb := B.bytes
  have hr := B.returns
  have hts := atoms_spec (ws := .code yX13_run cX13_run 5 (some .int) :: wP) B.pre
  have hown : s.vm.findClass RX13 = some m.cls := findClass_of_methodNamed B.named
  subst hsz
  have hD := hD0.self (sz := s.heap.size)
  generalize hAe : va_A [(h0, .inr (13, fs))] s.heap.size = A at hD ⊢
  have hA : ∀ q : Nat, s.heap.size ≤ q → A q := fun q h => by rw [← hAe]; exact Or.inr h
  have hS : va_S A s.heap s.heap [] := va_S.rf
  have hl := lv_entry ([.ref h0, .int a1]) (n := 5) (Nat.le_of_ble_eq_true rfl)
  rw [lg_entry_eq]
  generalize (lg_sl ([.ref h0, .int a1]) ++ List.replicate (5 - (lg_sl ([.ref h0, .int a1])).length) Slot.unset).toArray = ls at hl ⊢
  have hl : lv_has ls 5 [(0, .ref h0), (1, .int a1)] := hl
  refine lv_aload_n hx hb dX13_run_0 rfl (lv_at hl 0 rfl) ?_
  refine lv_iload_n hx hb dX13_run_1 rfl (lv_at hl 1 rfl) ?_
  refine lv_if_lt (tgt := 12) hx hb dX13_run_2 (by decide) (fun h2 => ?_) (fun h2 => ?_)
  · refine lv_iconst (v := 1) hx hb dX13_run_12 (by decide) ?_
    refine lv_goto (tgt := 28) hx hb dX13_run_13 (by decide) ?_
    refine kq_put [(1, .int 1), (3, .int 0), (110, .int 0), (123, .int 0)] hts iX13 tyX13 tyX13_ok nmX13 hx hb hown hK hP hD hS 0 rfl rfl hJ 1 (by decide) (by decide) (hts _ (bP 135 rfl)) rfl (ty := .int) (by decide +kernel) (v := .int 1) rfl rfl dX13_run_28 (fun f h => kJ_put h _ _ (by decide)) (fun H locs fs hJ hP hD hS => ?_)
    have hP : va_P (dC, dI) vwCl [(h0, .inr (13, fs))] H := hP
    have hD : va_D A [(h0, .inr (13, fs))] := hD
    refine lv_aload_n hx hb dX13_run_31 rfl (lv_at hl 0 rfl) ?_
    refine va_get (D := (dC, dI)) (ci := 13) (v := .int 1) (C := RX13) (T := TX13) (N := 180) hx hb hts iX13 hown hK hP 0 rfl rfl 1 (by decide) (hts _ (bP 135 rfl)) (fun _ h9 => h9) (kJ_at hJ 0 rfl) dX13_run_32 ?_
    refine lv_if_le (tgt := 40) hx hb dX13_run_35 (by decide) (fun h => absurd h (by decide)) (fun _ => ?_)
    refine lv_iconst (v := 0) hx hb dX13_run_38 (by decide) ?_
    exact W.iret (v := 0) hx hb hr (fun t ht hW => ⟨⟨0, fs, rfl, by first | (rw [rc1 h2]; exact kJ_sub hJ (fun x hx => by rw [List.mem_singleton.mp hx]; exact List.mem_cons_self)) | (rw [rc2 h9]; exact kJ_sub hJ (fun x hx => by rw [List.mem_singleton.mp hx]; exact List.mem_cons_self)) | (rw [rc3 h2 h9]; exact kJ_sub hJ (fun x hx => by rw [List.mem_singleton.mp hx]; exact List.mem_cons_self)), by rw [ht]; exact hP, va_K.moved hW.alike hK, hD⟩, hS.F ht⟩) hS.2.2 dX13_run_39
  · refine lv_iload_n hx hb dX13_run_5 rfl (lv_at hl 1 rfl) ?_
    refine lv_sipush (v := 2000) hx hb dX13_run_6 (by decide) ?_
    refine lv_icmp_le (tgt := 16) hx hb dX13_run_9 (by decide) (fun h9 => ?_) (fun h9 => ?_)
    · refine lv_aload_n hx hb dX13_run_16 rfl (lv_at hl 0 rfl) ?_
      refine va_get (D := (dC, dI)) (ci := 13) (v := .int 0) (C := RX13) (T := TX13) (N := 180) hx hb hts iX13 hown hK hP 0 rfl rfl 123 (by decide) (hts _ (bP 136 rfl)) (fun _ h9 => h9) (kJ_at hJ 2 rfl) dX13_run_17 ?_
      refine lv_if_ne (tgt := 27) hx hb dX13_run_20 (by decide) (fun h => absurd h (by decide)) (fun _ => ?_)
      refine lv_iconst (v := 2) hx hb dX13_run_23 (by decide) ?_
      refine lv_goto (tgt := 28) hx hb dX13_run_24 (by decide) ?_
      refine kq_put [(1, .int 2), (3, .int 0), (110, .int 0), (123, .int 0)] hts iX13 tyX13 tyX13_ok nmX13 hx hb hown hK hP hD hS 0 rfl rfl hJ 1 (by decide) (by decide) (hts _ (bP 135 rfl)) rfl (ty := .int) (by decide +kernel) (v := .int 2) rfl rfl dX13_run_28 (fun f h => kJ_put h _ _ (by decide)) (fun H locs fs hJ hP hD hS => ?_)
      have hP : va_P (dC, dI) vwCl [(h0, .inr (13, fs))] H := hP
      have hD : va_D A [(h0, .inr (13, fs))] := hD
      refine lv_aload_n hx hb dX13_run_31 rfl (lv_at hl 0 rfl) ?_
      refine va_get (D := (dC, dI)) (ci := 13) (v := .int 2) (C := RX13) (T := TX13) (N := 180) hx hb hts iX13 hown hK hP 0 rfl rfl 1 (by decide) (hts _ (bP 135 rfl)) (fun _ h9 => h9) (kJ_at hJ 0 rfl) dX13_run_32 ?_
      refine lv_if_le (tgt := 40) hx hb dX13_run_35 (by decide) (fun h => absurd h (by decide)) (fun _ => ?_)
      refine lv_iconst (v := 0) hx hb dX13_run_38 (by decide) ?_
      exact W.iret (v := 0) hx hb hr (fun t ht hW => ⟨⟨0, fs, rfl, by first | (rw [rc1 h2]; exact kJ_sub hJ (fun x hx => by rw [List.mem_singleton.mp hx]; exact List.mem_cons_self)) | (rw [rc2 h9]; exact kJ_sub hJ (fun x hx => by rw [List.mem_singleton.mp hx]; exact List.mem_cons_self)) | (rw [rc3 h2 h9]; exact kJ_sub hJ (fun x hx => by rw [List.mem_singleton.mp hx]; exact List.mem_cons_self)), by rw [ht]; exact hP, va_K.moved hW.alike hK, hD⟩, hS.F ht⟩) hS.2.2 dX13_run_39
    · refine lv_iconst (v := 1) hx hb dX13_run_12 (by decide) ?_
      refine lv_goto (tgt := 28) hx hb dX13_run_13 (by decide) ?_
      refine kq_put [(1, .int 1), (3, .int 0), (110, .int 0), (123, .int 0)] hts iX13 tyX13 tyX13_ok nmX13 hx hb hown hK hP hD hS 0 rfl rfl hJ 1 (by decide) (by decide) (hts _ (bP 135 rfl)) rfl (ty := .int) (by decide +kernel) (v := .int 1) rfl rfl dX13_run_28 (fun f h => kJ_put h _ _ (by decide)) (fun H locs fs hJ hP hD hS => ?_)
      have hP : va_P (dC, dI) vwCl [(h0, .inr (13, fs))] H := hP
      have hD : va_D A [(h0, .inr (13, fs))] := hD
      refine lv_aload_n hx hb dX13_run_31 rfl (lv_at hl 0 rfl) ?_
      refine va_get (D := (dC, dI)) (ci := 13) (v := .int 1) (C := RX13) (T := TX13) (N := 180) hx hb hts iX13 hown hK hP 0 rfl rfl 1 (by decide) (hts _ (bP 135 rfl)) (fun _ h9 => h9) (kJ_at hJ 0 rfl) dX13_run_32 ?_
      refine lv_if_le (tgt := 40) hx hb dX13_run_35 (by decide) (fun h => absurd h (by decide)) (fun _ => ?_)
      refine lv_iconst (v := 0) hx hb dX13_run_38 (by decide) ?_
      exact W.iret (v := 0) hx hb hr (fun t ht hW => ⟨⟨0, fs, rfl, by first | (rw [rc1 h2]; exact kJ_sub hJ (fun x hx => by rw [List.mem_singleton.mp hx]; exact List.mem_cons_self)) | (rw [rc2 h9]; exact kJ_sub hJ (fun x hx => by rw [List.mem_singleton.mp hx]; exact List.mem_cons_self)) | (rw [rc3 h2 h9]; exact kJ_sub hJ (fun x hx => by rw [List.mem_singleton.mp hx]; exact List.mem_cons_self)), by rw [ht]; exact hP, va_K.moved hW.alike hK, hD⟩, hS.F ht⟩) hS.2.2 dX13_run_39
set_option maxHeartbeats 4000000 in
set_option maxRecDepth 100000 in
/-- thrown -/
theorem c_M_thrown (l : Launch) (dC : Nat → ClassId) (dI : Nat → Nat → Nat) (h0 sz : Nat) (fs : List Value) (k : Int32) : Met l yX13_thrown (.code yX13_thrown cX13_thrown 1 (some .int) :: wP) ({ frames := 0, cells := 0, slots := 0, locals := 0 }) (va_Pc [.ref h0] (fun U => U.heap.size = sz ∧ kJ 180 [(1, .int k)] fs ∧ va_P (dC, dI) vwCl [(h0, .inr (13, fs))] U.heap ∧ va_K (dC, dI) vwCl [] U ∧ va_D (fun _ => True) [(h0, .inr (13, fs))])) (va_Qi (fun r (_ : Unit) => r = k) (fun (_ : Unit) (_ : State) => True) (va_A [(h0, .inr (13, fs))] sz)) 0 0 (va_A [(h0, .inr (13, fs))] sz) := by
  refine Met.ofW (cc := cX13_thrown) (maxL := 1) (ret := (some .int)) (by decide) rfl ?_
  intro p e s m args below meth c s₁ B hml hv
  obtain ⟨rfl, hsz, hJ, hP, hK, hD0⟩ := hv
  have hx := B.exec
  have hb := B.bytes
  have hr := B.returns
  have hts := atoms_spec (ws := .code yX13_thrown cX13_thrown 1 (some .int) :: wP) B.pre
  have hown : s.vm.findClass RX13 = some m.cls := findClass_of_methodNamed B.named
  subst hsz
  have hD := hD0.self (sz := s.heap.size)
  generalize hAe : va_A [(h0, .inr (13, fs))] s.heap.size = A at hD ⊢
  have hA : ∀ q : Nat, s.heap.size ≤ q → A q := fun q h => by rw [← hAe]; exact Or.inr h
  have hS : va_S A s.heap s.heap [] := va_S.rf
  have hl := lv_entry ([.ref h0]) (n := 1) (Nat.le_of_ble_eq_true rfl)
  rw [lg_entry_eq]
  generalize (lg_sl ([.ref h0]) ++ List.replicate (1 - (lg_sl ([.ref h0])).length) Slot.unset).toArray = ls at hl ⊢
  have hl : lv_has ls 1 [(0, .ref h0)] := hl
  refine lv_aload_n hx hb dX13_thrown_0 rfl (lv_at hl 0 rfl) ?_
  refine va_get (D := (dC, dI)) (ci := 13) (v := .int k) (C := RX13) (T := TX13) (N := 180) hx hb hts iX13 hown hK hP 0 rfl rfl 1 (by decide) (hts _ (bP 135 rfl)) (fun _ h9 => h9) (kJ_at hJ 0 rfl) dX13_thrown_1 ?_
  exact W.iret (v := k) hx hb hr (fun t ht hW => ⟨⟨k, (), rfl, rfl, trivial⟩, hS.F ht⟩) hS.2.2 dX13_thrown_4
set_option maxHeartbeats 4000000 in
set_option maxRecDepth 100000 in
/-- state -/
theorem c_M_state (l : Launch) (dC : Nat → ClassId) (dI : Nat → Nat → Nat) (h0 sz : Nat) (fs : List Value) : Met l yX13_state (.code yX13_state cX13_state 1 (some .int) :: wP) ({ frames := 0, cells := 0, slots := 0, locals := 0 }) (va_Pc [.ref h0] (fun U => U.heap.size = sz ∧ kJ 180 [(3, .int 0), (110, .int 0), (123, .int 0)] fs ∧ va_P (dC, dI) vwCl [(h0, .inr (13, fs))] U.heap ∧ va_K (dC, dI) vwCl [] U ∧ va_D (fun _ => True) [(h0, .inr (13, fs))])) (va_Qi (fun r (_ : Unit) => r = 0) (fun (_ : Unit) (_ : State) => True) (va_A [(h0, .inr (13, fs))] sz)) 0 0 (va_A [(h0, .inr (13, fs))] sz) := by
  refine Met.ofW (cc := cX13_state) (maxL := 1) (ret := (some .int)) (by decide) rfl ?_
  intro p e s m args below meth c s₁ B hml hv
  obtain ⟨rfl, hsz, hJ, hP, hK, hD0⟩ := hv
  have hx := B.exec
  have hb := B.bytes
  have hr := B.returns
  have hts := atoms_spec (ws := .code yX13_state cX13_state 1 (some .int) :: wP) B.pre
  have hown : s.vm.findClass RX13 = some m.cls := findClass_of_methodNamed B.named
  subst hsz
  have hD := hD0.self (sz := s.heap.size)
  generalize hAe : va_A [(h0, .inr (13, fs))] s.heap.size = A at hD ⊢
  have hA : ∀ q : Nat, s.heap.size ≤ q → A q := fun q h => by rw [← hAe]; exact Or.inr h
  have hS : va_S A s.heap s.heap [] := va_S.rf
  have hl := lv_entry ([.ref h0]) (n := 1) (Nat.le_of_ble_eq_true rfl)
  rw [lg_entry_eq]
  generalize (lg_sl ([.ref h0]) ++ List.replicate (1 - (lg_sl ([.ref h0])).length) Slot.unset).toArray = ls at hl ⊢
  have hl : lv_has ls 1 [(0, .ref h0)] := hl
  refine lv_aload_n hx hb dX13_state_0 rfl (lv_at hl 0 rfl) ?_
  refine va_get (D := (dC, dI)) (ci := 13) (v := .int 0) (C := RX13) (T := TX13) (N := 180) hx hb hts iX13 hown hK hP 0 rfl rfl 123 (by decide) (hts _ (bP 136 rfl)) (fun _ h9 => h9) (kJ_at hJ 2 rfl) dX13_state_1 ?_
  refine lv_if_ne (tgt := 9) hx hb dX13_state_4 (by decide) (fun h => absurd h (by decide)) (fun _ => ?_)
  refine lv_iconst (v := 0) hx hb dX13_state_7 (by decide) ?_
  exact W.iret (v := 0) hx hb hr (fun t ht hW => ⟨⟨0, (), rfl, rfl, trivial⟩, hS.F ht⟩) hS.2.2 dX13_state_8
set_option maxHeartbeats 4000000 in
set_option maxRecDepth 100000 in
/-- count -/
theorem c_M_count (l : Launch) (dC : Nat → ClassId) (dI : Nat → Nat → Nat) (h0 sz : Nat) (fs : List Value) (a1 : Int32) : Met l yX13_count (.code yX13_count cX13_count 4 (some .int) :: wP) ({ frames := 1, cells := 0, slots := 0, locals := 20 }) (va_Pc [.ref h0, .int a1] (fun U => U.heap.size = sz ∧ kJ 180 [(3, .int 0), (110, .int 0), (123, .int 0)] fs ∧ va_P (dC, dI) vwCl [(h0, .inr (13, fs))] U.heap ∧ va_K (dC, dI) vwCl [] U ∧ va_D (fun _ => True) [(h0, .inr (13, fs))])) (va_Qi (fun r (_ : Unit) => r = cnt a1) (fun (_ : Unit) (_ : State) => True) (va_A [(h0, .inr (13, fs))] sz)) 0 0 (va_A [(h0, .inr (13, fs))] sz) := by
  refine Met.ofW (cc := cX13_count) (maxL := 4) (ret := (some .int)) (by decide) rfl ?_
  intro p e s m args below meth c s₁ B hml hv
  obtain ⟨rfl, hsz, hJ, hP, hK, hD0⟩ := hv
  have hx := B.exec
  have hb := B.bytes
  have hr := B.returns
  have hts := atoms_spec (ws := .code yX13_count cX13_count 4 (some .int) :: wP) B.pre
  have hown : s.vm.findClass RX13 = some m.cls := findClass_of_methodNamed B.named
  subst hsz
  have hD := hD0.self (sz := s.heap.size)
  generalize hAe : va_A [(h0, .inr (13, fs))] s.heap.size = A at hD ⊢
  have hA : ∀ q : Nat, s.heap.size ≤ q → A q := fun q h => by rw [← hAe]; exact Or.inr h
  have hS : va_S A s.heap s.heap [] := va_S.rf
  have hl := lv_entry ([.ref h0, .int a1]) (n := 4) (Nat.le_of_ble_eq_true rfl)
  rw [lg_entry_eq]
  generalize (lg_sl ([.ref h0, .int a1]) ++ List.replicate (4 - (lg_sl ([.ref h0, .int a1])).length) Slot.unset).toArray = ls at hl ⊢
  have hl : lv_has ls 4 [(0, .ref h0), (1, .int a1)] := hl
  refine lv_aload_n hx hb dX13_count_0 rfl (lv_at hl 0 rfl) ?_
  refine lv_iconst (v := 0) hx hb dX13_count_1 (by decide) ?_
  refine kq_put [(1, .int 0), (3, .int 0), (110, .int 0), (123, .int 0)] hts iX13 tyX13 tyX13_ok nmX13 hx hb hown hK hP hD hS 0 rfl rfl hJ 1 (by decide) (by decide) (hts _ (bP 135 rfl)) rfl (ty := .int) (by decide +kernel) (v := .int 0) rfl rfl dX13_count_2 (fun f h => kJ_put h _ _ (by decide)) (fun H locs fs hJ hP hD hS => ?_)
  have hP : va_P (dC, dI) vwCl [(h0, .inr (13, fs))] H := hP
  have hD : va_D A [(h0, .inr (13, fs))] := hD
  refine lv_iload_n hx hb dX13_count_5 rfl (lv_at hl 1 rfl) ?_
  refine lv_iconst (v := 5) hx hb dX13_count_6 (by decide) ?_
  refine lv_icmp_lt (tgt := 30) hx hb dX13_count_7 (by decide) (fun h7 => ?_) (fun h7 => ?_)
  · refine lv_iload_n hx hb dX13_count_30 rfl (lv_at hl 1 rfl) ?_
    by_cases h9 : a1 < 0
    · refine lv_tableOut (tgt := 242) hx hb dX13_count_31 (Or.inl (k_lo h9)) (by decide) ?_
      refine lv_iconst (v := (-1)) hx hb dX13_count_242 (by decide) ?_
      exact W.iret (v := (-1)) hx hb hr (fun t ht hW => ⟨⟨(-1), (), rfl, by first | rfl | exact cnt1 h9 | exact cnt2 h13 | exact cnt3 h7 h13 | exact hw, trivial⟩, hS.F ht⟩) hS.2.2 dX13_count_243
    · rcases i5 h9 h7 with h | h | h | h | h <;> subst h
      · refine lv_tableIn (tgt := 100) hx hb dX13_count_31 (by decide) (by decide) rfl (by decide) ?_
        refine lv_aload_n hx hb dX13_count_100 rfl (lv_at hl 0 rfl) ?_
        refine va_get (D := (dC, dI)) (ci := 13) (v := .int 0) (C := RX13) (T := TX13) (N := 180) hx hb hts iX13 hown hK hP 0 rfl rfl 110 (by decide) (hts _ (bP 141 rfl)) (fun _ h9 => h9) (kJ_at hJ 2 rfl) dX13_count_101 ?_
        refine lv_if_eq (tgt := 114) hx hb dX13_count_104 (by decide) (fun _ => ?_) (fun h => absurd h (by decide))
        refine lv_iconst (v := 0) hx hb dX13_count_114 (by decide) ?_
        exact W.iret (v := 0) hx hb hr (fun t ht hW => ⟨⟨0, (), rfl, by first | rfl | exact cnt1 h9 | exact cnt2 h13 | exact cnt3 h7 h13 | exact hw, trivial⟩, hS.F ht⟩) hS.2.2 dX13_count_115
      · refine lv_tableIn (tgt := 116) hx hb dX13_count_31 (by decide) (by decide) rfl (by decide) ?_
        refine lv_aload_n hx hb dX13_count_116 rfl (lv_at hl 0 rfl) ?_
        refine va_get (D := (dC, dI)) (ci := 13) (v := .int 0) (C := RX13) (T := TX13) (N := 180) hx hb hts iX13 hown hK hP 0 rfl rfl 110 (by decide) (hts _ (bP 141 rfl)) (fun _ h9 => h9) (kJ_at hJ 2 rfl) dX13_count_117 ?_
        refine lv_if_eq (tgt := 130) hx hb dX13_count_120 (by decide) (fun _ => ?_) (fun h => absurd h (by decide))
        refine lv_iconst (v := 0) hx hb dX13_count_130 (by decide) ?_
        exact W.iret (v := 0) hx hb hr (fun t ht hW => ⟨⟨0, (), rfl, by first | rfl | exact cnt1 h9 | exact cnt2 h13 | exact cnt3 h7 h13 | exact hw, trivial⟩, hS.F ht⟩) hS.2.2 dX13_count_131
      · refine lv_tableIn (tgt := 132) hx hb dX13_count_31 (by decide) (by decide) rfl (by decide) ?_
        refine lv_aload_n hx hb dX13_count_132 rfl (lv_at hl 0 rfl) ?_
        refine va_get (D := (dC, dI)) (ci := 13) (v := .int 0) (C := RX13) (T := TX13) (N := 180) hx hb hts iX13 hown hK hP 0 rfl rfl 110 (by decide) (hts _ (bP 141 rfl)) (fun _ h9 => h9) (kJ_at hJ 2 rfl) dX13_count_133 ?_
        refine lv_if_eq (tgt := 146) hx hb dX13_count_136 (by decide) (fun _ => ?_) (fun h => absurd h (by decide))
        refine lv_iconst (v := 0) hx hb dX13_count_146 (by decide) ?_
        exact W.iret (v := 0) hx hb hr (fun t ht hW => ⟨⟨0, (), rfl, by first | rfl | exact cnt1 h9 | exact cnt2 h13 | exact cnt3 h7 h13 | exact hw, trivial⟩, hS.F ht⟩) hS.2.2 dX13_count_147
      · refine lv_tableIn (tgt := 148) hx hb dX13_count_31 (by decide) (by decide) rfl (by decide) ?_
        refine lv_aload_n hx hb dX13_count_148 rfl (lv_at hl 0 rfl) ?_
        refine va_get (D := (dC, dI)) (ci := 13) (v := .int 0) (C := RX13) (T := TX13) (N := 180) hx hb hts iX13 hown hK hP 0 rfl rfl 3 (by decide) (hts _ (bP 139 rfl)) (fun _ h9 => h9) (kJ_at hJ 1 rfl) dX13_count_149 ?_
        exact W.iret (v := 0) hx hb hr (fun t ht hW => ⟨⟨0, (), rfl, by first | rfl | exact cnt1 h9 | exact cnt2 h13 | exact cnt3 h7 h13 | exact hw, trivial⟩, hS.F ht⟩) hS.2.2 dX13_count_152
      · refine lv_tableIn (tgt := 153) hx hb dX13_count_31 (by decide) (by decide) rfl (by decide) ?_
        refine lv_aload_n hx hb dX13_count_153 rfl (lv_at hl 0 rfl) ?_
        have hPc := hP.sub (ws' := [(h0, .inr (13, fs))]) [0] rfl
        have hDc := hD.sub (ws' := [(h0, .inr (13, fs))]) [0] (by decide) rfl
        have hKc := hK.sub (tys' := []) [] rfl
        have hFc := va_free (wc := [(h0, .inr (13, fs))]) hD hS hA [0] rfl
        refine va_calli (va_runV (As := []) (rest := []) ⟨hx, hb, hml, hown, hts⟩ (c_M_state l dC dI h0 H.size fs) (cwV 0 hts (gV (y := yX13_state) _ 146 147 148 149 144 rfl rfl rfl rfl rfl) rfl rfl rfl (by decide +kernel) ⟨Nat.le_of_ble_eq_true rfl, Nat.le_of_ble_eq_true rfl⟩) ⟨fun a U g mk q => by obtain ⟨q0, q1, qJ, qP, qK, qD⟩ := q; exact ⟨q0, q1, qJ, qP, va_K.moved (u := U) (U := U.calling g mk a) (Vm.Alike.refl U.vm) qK, qD⟩, va_recv hKc hPc (ci := 13) (q0 := 0) rfl rfl, fun U hU hW => ⟨rfl, by rw [hU], kJ_sub hJ (by simp), by rw [hU]; exact hPc, va_K.moved hW.alike hKc, hDc.weaken (fun _ _ _ _ => trivial)⟩⟩ rfl rfl hl.1 rfl (lv_room (Nat.le_of_ble_eq_true rfl)) dX13_count_154 ⟨by simp, by simp⟩) hS (fun q _ h => hFc q h) hFc (fun r u t H locs ht hvm hw hB hz1 hk1 hS => ?_)
        exact W.iret (v := r) hx hb hr (fun t ht hW => ⟨⟨r, (), rfl, by first | rfl | exact cnt1 h9 | exact cnt2 h13 | exact cnt3 h7 h13 | exact hw, trivial⟩, hS.F ht⟩) hS.2.2 dX13_count_157
  · refine lv_iload_n hx hb dX13_count_10 rfl (lv_at hl 1 rfl) ?_
    refine lv_bipush (v := 13) hx hb dX13_count_11 (by decide) ?_
    refine lv_icmp_gt (tgt := 30) hx hb dX13_count_13 (by decide) (fun h13 => ?_) (fun h13 => ?_)
    · refine lv_iload_n hx hb dX13_count_30 rfl (lv_at hl 1 rfl) ?_
      refine lv_tableOut (tgt := 242) hx hb dX13_count_31 (Or.inr (k_hi h13)) (by decide) ?_
      refine lv_iconst (v := (-1)) hx hb dX13_count_242 (by decide) ?_
      exact W.iret (v := (-1)) hx hb hr (fun t ht hW => ⟨⟨(-1), (), rfl, by first | rfl | exact cnt1 h9 | exact cnt2 h13 | exact cnt3 h7 h13 | exact hw, trivial⟩, hS.F ht⟩) hS.2.2 dX13_count_243
    · refine lv_iload_n hx hb dX13_count_16 rfl (lv_at hl 1 rfl) ?_
      refine lv_iconst (v := 4) hx hb dX13_count_17 (by decide) ?_
      refine lv_icmp_eq (tgt := 30) hx hb dX13_count_18 (by decide) (fun h18 => ?_) (fun h18 => ?_)
      · refine lv_iload_n hx hb dX13_count_30 rfl (lv_at hl 1 rfl) ?_
        exact absurd (h18 ▸ (by decide : (4 : Int32) < 5)) h7
      · refine lv_aload_n hx hb dX13_count_21 rfl (lv_at hl 0 rfl) ?_
        refine va_get (D := (dC, dI)) (ci := 13) (v := .int 0) (C := RX13) (T := TX13) (N := 180) hx hb hts iX13 hown hK hP 0 rfl rfl 123 (by decide) (hts _ (bP 136 rfl)) (fun _ h9 => h9) (kJ_at hJ 3 rfl) dX13_count_22 ?_
        refine lv_if_ne (tgt := 30) hx hb dX13_count_25 (by decide) (fun h => absurd h (by decide)) (fun _ => ?_)
        refine lv_iconst (v := 0) hx hb dX13_count_28 (by decide) ?_
        exact W.iret (v := 0) hx hb hr (fun t ht hW => ⟨⟨0, (), rfl, by first | rfl | exact cnt1 h9 | exact cnt2 h13 | exact cnt3 h7 h13 | exact hw, trivial⟩, hS.F ht⟩) hS.2.2 dX13_count_29
end
