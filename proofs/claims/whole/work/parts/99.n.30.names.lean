def RX0 : String := "BrideDoors$BrideText"
def TX0 : u_T := fun k => match k with
  | 0 => ("BrideDoors$Text", "signs", "[I", true)
  | 1 => ("BrideDoors$Text", "told", "LBrideDoors$Table;", true)
  | 2 => ("BrideDoors$Text", "length", "I", false)
  | _ => ("BrideDoors$Text", "fault", "I", false)
def tyX0 : Nat → FieldType := fun k => match k with
  | 0 => .array .int
  | 1 => .object "BrideDoors$Table"
  | 2 => .int
  | _ => .int
theorem nmX0 : ∀ a, a < 4 → ∀ b, b < 4 → a ≠ b → (TX0 a).2.1 ≠ (TX0 b).2.1 := by decide +kernel
theorem tyX0_ok : ∀ k, k < 4 → parseFieldDescriptor (TX0 k).2.2.1 = some (tyX0 k) := by decide +kernel
def RX1 : String := "BrideDoors$HouseText"
def TX1 : u_T := TX0
def tyX1 : Nat → FieldType := tyX0
theorem nmX1 : ∀ a, a < 4 → ∀ b, b < 4 → a ≠ b → (TX1 a).2.1 ≠ (TX1 b).2.1 := nmX0
theorem tyX1_ok : ∀ k, k < 4 → parseFieldDescriptor (TX1 k).2.2.1 = some (tyX1 k) := tyX0_ok
def RX2 : String := "BrideDoors$Sheet"
def TX2 : u_T := fun k => match k with
  | 0 => ("BrideDoors$Sheet", "items", "[I", true)
  | 1 => ("BrideDoors$Sheet", "lost", "Z", false)
  | 2 => ("BrideDoors$Sheet", "form", "I", false)
  | _ => ("BrideDoors$Sheet", "size", "I", false)
def tyX2 : Nat → FieldType := fun k => match k with
  | 0 => .array .int
  | 1 => .boolean
  | 2 => .int
  | _ => .int
theorem nmX2 : ∀ a, a < 4 → ∀ b, b < 4 → a ≠ b → (TX2 a).2.1 ≠ (TX2 b).2.1 := by decide +kernel
theorem tyX2_ok : ∀ k, k < 4 → parseFieldDescriptor (TX2 k).2.2.1 = some (tyX2 k) := by decide +kernel
def RX3 : String := "BrideDoors$Table"
def TX3 : u_T := fun k => match k with
  | 0 => ("BrideDoors$Table", "cells", "[[I", true)
  | 1 => ("BrideDoors$Table", "columns", "I", true)
  | 2 => ("BrideDoors$Table", "most", "I", true)
  | _ => ("BrideDoors$Table", "size", "I", false)
def tyX3 : Nat → FieldType := fun k => match k with
  | 0 => .array (.array .int)
  | 1 => .int
  | 2 => .int
  | _ => .int
theorem nmX3 : ∀ a, a < 4 → ∀ b, b < 4 → a ≠ b → (TX3 a).2.1 ≠ (TX3 b).2.1 := by decide +kernel
theorem tyX3_ok : ∀ k, k < 4 → parseFieldDescriptor (TX3 k).2.2.1 = some (tyX3 k) := by decide +kernel
def RX5 : String := "BrideDoors$World"
def TX5 : u_T := fun k => match k with
  | 0 => ("BrideDoors$World", "houses", "LBrideDoors$Table;", true)
  | 1 => ("BrideDoors$World", "brides", "LBrideDoors$Table;", true)
  | 2 => ("BrideDoors$World", "events", "LBrideDoors$Table;", false)
  | 3 => ("BrideDoors$World", "missing", "I", false)
  | 4 => ("BrideDoors$World", "busyYears", "I", false)
  | 5 => ("BrideDoors$World", "opens", "[I", true)
  | 6 => ("BrideDoors$World", "state", "[I", true)
  | 7 => ("BrideDoors$World", "height", "[I", true)
  | 8 => ("BrideDoors$World", "sawn", "[I", true)
  | _ => ("BrideDoors$World", "hung", "[I", true)
def tyX5 : Nat → FieldType := fun k => match k with
  | 0 => .object "BrideDoors$Table"
  | 1 => .object "BrideDoors$Table"
  | 2 => .object "BrideDoors$Table"
  | 3 => .int
  | 4 => .int
  | 5 => .array .int
  | 6 => .array .int
  | 7 => .array .int
  | 8 => .array .int
  | _ => .array .int
theorem nmX5 : ∀ a, a < 10 → ∀ b, b < 10 → a ≠ b → (TX5 a).2.1 ≠ (TX5 b).2.1 := by decide +kernel
theorem tyX5_ok : ∀ k, k < 10 → parseFieldDescriptor (TX5 k).2.2.1 = some (tyX5 k) := by decide +kernel
def RX6 : String := "BrideDoors"
def TX6 : u_T := fun k => match k with
  | 0 => ("BrideDoors", "houses", "LBrideDoors$Table;", true)
  | 1 => ("BrideDoors", "brides", "LBrideDoors$Table;", true)
  | 2 => ("BrideDoors", "events", "LBrideDoors$Table;", true)
  | 3 => ("BrideDoors", "drawn", "LBrideDoors$Table;", true)
  | 4 => ("BrideDoors", "sights", "LBrideDoors$Table;", true)
  | 5 => ("BrideDoors", "houseText", "LBrideDoors$Text;", true)
  | 6 => ("BrideDoors", "brideText", "LBrideDoors$Text;", true)
  | 7 => ("BrideDoors", "world", "LBrideDoors$World;", true)
  | 8 => ("BrideDoors", "openMemo", "[I", true)
  | 9 => ("BrideDoors", "memoStale", "Z", false)
  | 10 => ("BrideDoors", "gapTally", "[I", true)
  | 11 => ("BrideDoors", "sheets", "[LBrideDoors$Sheet;", true)
  | _ => ("BrideDoors", "latestFinding", "I", false)
def tyX6 : Nat → FieldType := fun k => match k with
  | 0 => .object "BrideDoors$Table"
  | 1 => .object "BrideDoors$Table"
  | 2 => .object "BrideDoors$Table"
  | 3 => .object "BrideDoors$Table"
  | 4 => .object "BrideDoors$Table"
  | 5 => .object "BrideDoors$Text"
  | 6 => .object "BrideDoors$Text"
  | 7 => .object "BrideDoors$World"
  | 8 => .array .int
  | 9 => .boolean
  | 10 => .array .int
  | 11 => .array (.object "BrideDoors$Sheet")
  | _ => .int
theorem nmX6 : ∀ a, a < 13 → ∀ b, b < 13 → a ≠ b → (TX6 a).2.1 ≠ (TX6 b).2.1 := by decide +kernel
theorem tyX6_ok : ∀ k, k < 13 → parseFieldDescriptor (TX6 k).2.2.1 = some (tyX6 k) := by decide +kernel
def RX7 : String := "BrideDoorsModel"
def TX7 : u_T := fun k => match k with
  | 0 => ("BrideDoorsModel", "forms", "[I", true)
  | 1 => ("BrideDoorsModel", "sizes", "[I", true)
  | 2 => ("BrideDoorsModel", "items", "[I", true)
  | 3 => ("BrideDoorsModel", "moved", "[I", true)
  | 4 => ("BrideDoorsModel", "latest", "I", false)
  | 5 => ("BrideDoorsModel", "bytes", "[I", true)
  | 6 => ("BrideDoorsModel", "typed", "[I", true)
  | 7 => ("BrideDoorsModel", "houses", "I", false)
  | 8 => ("BrideDoorsModel", "house", "[I", true)
  | 9 => ("BrideDoorsModel", "brides", "I", false)
  | 10 => ("BrideDoorsModel", "bride", "[I", true)
  | 11 => ("BrideDoorsModel", "events", "I", false)
  | 12 => ("BrideDoorsModel", "event", "[I", true)
  | 13 => ("BrideDoorsModel", "gone", "I", false)
  | 14 => ("BrideDoorsModel", "opens", "[I", true)
  | 15 => ("BrideDoorsModel", "state", "[I", true)
  | 16 => ("BrideDoorsModel", "high", "[I", true)
  | 17 => ("BrideDoorsModel", "sawn", "[I", true)
  | 18 => ("BrideDoorsModel", "opensBy", "[I", true)
  | 19 => ("BrideDoorsModel", "doorsBy", "[I", true)
  | 20 => ("BrideDoorsModel", "highestBy", "[I", true)
  | 21 => ("BrideDoorsModel", "lowestBy", "[I", true)
  | 22 => ("BrideDoorsModel", "stateBy", "[I", true)
  | 23 => ("BrideDoorsModel", "highBy", "[I", true)
  | 24 => ("BrideDoorsModel", "sawnBy", "[I", true)
  | 25 => ("BrideDoorsModel", "sights", "I", false)
  | 26 => ("BrideDoorsModel", "sight", "[I", true)
  | 27 => ("BrideDoorsModel", "gaps", "[I", true)
  | 28 => ("BrideDoorsModel", "drawn", "I", false)
  | _ => ("BrideDoorsModel", "told", "[I", true)
def tyX7 : Nat → FieldType := fun k => match k with
  | 0 => .array .int
  | 1 => .array .int
  | 2 => .array .int
  | 3 => .array .int
  | 4 => .int
  | 5 => .array .int
  | 6 => .array .int
  | 7 => .int
  | 8 => .array .int
  | 9 => .int
  | 10 => .array .int
  | 11 => .int
  | 12 => .array .int
  | 13 => .int
  | 14 => .array .int
  | 15 => .array .int
  | 16 => .array .int
  | 17 => .array .int
  | 18 => .array .int
  | 19 => .array .int
  | 20 => .array .int
  | 21 => .array .int
  | 22 => .array .int
  | 23 => .array .int
  | 24 => .array .int
  | 25 => .int
  | 26 => .array .int
  | 27 => .array .int
  | 28 => .int
  | _ => .array .int
theorem nmX7 : ∀ a, a < 30 → ∀ b, b < 30 → a ≠ b → (TX7 a).2.1 ≠ (TX7 b).2.1 := by decide +kernel
theorem tyX7_ok : ∀ k, k < 30 → parseFieldDescriptor (TX7 k).2.2.1 = some (tyX7 k) := by decide +kernel
abbrev n_cl : List vw_C := [(RX0, TX0, 4), (RX1, TX1, 4), (RX2, TX2, 4), (RX3, TX3, 4), (RX5, TX5, 10), (RX6, TX6, 13), (RX7, TX7, 30)]
def n_ys : List MethodName := [⟨"java/lang/Integer", "bitCount", "(I)I"⟩, ⟨"java/lang/String", "length", "()I"⟩, ⟨"java/lang/String", "indexOf", "(I)I"⟩, ⟨"java/lang/String", "indexOf", "(II)I"⟩, ⟨"java/lang/String", "coder", "()B"⟩, ⟨"java/lang/String", "isLatin1", "()Z"⟩, ⟨"java/lang/StringLatin1", "canEncode", "(I)Z"⟩, ⟨"java/lang/StringLatin1", "indexOf", "([BIII)I"⟩, ⟨"java/lang/StringLatin1", "indexOfChar", "([BIII)I"⟩, ⟨"java/util/Arrays", "fill", "([II)V"⟩, ⟨"BrideDoors$BrideText", "valueOf", "(II)I"⟩, ⟨"BrideDoors$HouseText", "valueOf", "(II)I"⟩, ⟨"BrideDoors$Sheet", "renew", "(II)V"⟩, ⟨"BrideDoors$Sheet", "flawOf", "(II)I"⟩, ⟨"BrideDoors$Sheet", "hasRange", "(II)Z"⟩, ⟨"BrideDoors$Sheet", "put", "(II)V"⟩, ⟨"BrideDoors$Sheet", "narrowed", "(I)I"⟩, ⟨"BrideDoors$Table", "isFull", "()Z"⟩, ⟨"BrideDoors$Table", "hasRow", "(I)Z"⟩, ⟨"BrideDoors$Table", "has", "(II)Z"⟩, ⟨"BrideDoors$Table", "add", "(III)V"⟩, ⟨"BrideDoors$Text", "isFull", "()Z"⟩, ⟨"BrideDoors$Text", "append", "(I)V"⟩, ⟨"BrideDoors$Text", "cutTo", "(I)V"⟩, ⟨"BrideDoors$Text", "tellAnew", "()V"⟩, ⟨"BrideDoors$World", "begin", "(LBrideDoors$Table;I)V"⟩, ⟨"BrideDoors$World", "pass", "(II)V"⟩, ⟨"BrideDoors$World", "befall", "(II)V"⟩, ⟨"BrideDoors$World", "sawAll", "(I)V"⟩, ⟨"BrideDoors$World", "takeDown", "(II)V"⟩, ⟨"BrideDoors$World", "arrive", "(II)V"⟩, ⟨"BrideDoors$World", "broughtBy", "(I)I"⟩, ⟨"BrideDoors$World", "widened", "(II)I"⟩, ⟨"BrideDoors$World", "highestIn", "(I)I"⟩, ⟨"BrideDoors$World", "lowestIn", "(I)I"⟩, ⟨"BrideDoors$World", "heightOf", "(I)I"⟩, ⟨"BrideDoors$World", "doorsIn", "(I)I"⟩, ⟨"BrideDoors$World", "gapOf", "(I)I"⟩, ⟨"BrideDoors$World", "allGaps", "()I"⟩, ⟨"BrideDoors$World", "openBits", "()I"⟩, ⟨"BrideDoors$World", "bitsOf", "(I)I"⟩, ⟨"BrideDoors", "type", "(II)I"⟩, ⟨"BrideDoors", "wipe", "(I)I"⟩, ⟨"BrideDoors", "undo", "(I)I"⟩, ⟨"BrideDoors", "fault", "(I)I"⟩, ⟨"BrideDoors", "house", "(II)I"⟩, ⟨"BrideDoors", "bride", "(II)I"⟩, ⟨"BrideDoors", "event", "(III)I"⟩, ⟨"BrideDoors", "back", "()I"⟩, ⟨"BrideDoors", "read", "(I)I"⟩, ⟨"BrideDoors", "at", "(III)I"⟩, ⟨"BrideDoors", "door", "(III)I"⟩, ⟨"BrideDoors", "draught", "(I)I"⟩, ⟨"BrideDoors", "dog", "(I)I"⟩, ⟨"BrideDoors", "kin", "(I)I"⟩, ⟨"BrideDoors", "lowest", "()I"⟩, ⟨"BrideDoors", "left", "(I)I"⟩, ⟨"BrideDoors", "wed", "(II)I"⟩, ⟨"BrideDoors", "when", "(II)I"⟩, ⟨"BrideDoors", "from", "(II)I"⟩, ⟨"BrideDoors", "spare", "(I)I"⟩, ⟨"BrideDoors", "bestPlan", "(III)I"⟩, ⟨"BrideDoors", "partOf", "(II)I"⟩, ⟨"BrideDoors", "fewestSpared", "()I"⟩, ⟨"BrideDoors", "placeOfBit", "(II)I"⟩, ⟨"BrideDoors", "seen", "(III)I"⟩, ⟨"BrideDoors", "forget", "()I"⟩, ⟨"BrideDoors", "never", "()I"⟩, ⟨"BrideDoors", "was", "(II)I"⟩, ⟨"BrideDoors", "ask", "(I)I"⟩, ⟨"BrideDoors", "chance", "(III)J"⟩, ⟨"BrideDoors", "ages", "(III)I"⟩, ⟨"BrideDoors", "comesOut", "(I)Z"⟩, ⟨"BrideDoors", "agreesWithSeen", "(I)Z"⟩, ⟨"BrideDoors", "fitting", "(IIII)I"⟩, ⟨"BrideDoors", "tallyGaps", "(II)V"⟩, ⟨"BrideDoors", "greatestTally", "(I)I"⟩, ⟨"BrideDoors", "weightOf", "(II)J"⟩, ⟨"BrideDoors", "drawEvents", "(II)V"⟩, ⟨"BrideDoors", "nextSeed", "(I)I"⟩, ⟨"BrideDoors", "sheet", "(III)I"⟩, ⟨"BrideDoors", "lose", "(I)I"⟩, ⟨"BrideDoors", "lay", "(IIII)I"⟩, ⟨"BrideDoors", "get", "(III)I"⟩, ⟨"BrideDoors", "copy", "(IIIII)I"⟩, ⟨"BrideDoors", "write", "(II)I"⟩, ⟨"BrideDoors", "count", "(I)I"⟩, ⟨"BrideDoors", "digest", "()J"⟩, ⟨"BrideDoors", "mixHouse", "(JI)J"⟩, ⟨"BrideDoors", "mixBride", "(JI)J"⟩, ⟨"BrideDoors", "mixPlan", "(JI)J"⟩, ⟨"BrideDoors", "mix", "(JJ)J"⟩, ⟨"BrideDoors", "isBelow", "(II)Z"⟩, ⟨"BrideDoors", "isSet", "(II)Z"⟩, ⟨"BrideDoors", "placeAmong", "(ICI)I"⟩, ⟨"BrideDoors", "heightOfSign", "(I)I"⟩, ⟨"BrideDoors", "mayBe", "(III)Z"⟩, ⟨"BrideDoors", "textOf", "(I)LBrideDoors$Text;"⟩, ⟨"BrideDoors", "sheetOf", "(I)LBrideDoors$Sheet;"⟩, ⟨"BrideDoors", "finding", "(I)I"⟩, ⟨"BrideDoors", "passTold", "(I)V"⟩, ⟨"BrideDoors", "openWithout", "(I)I"⟩, ⟨"BrideDoorsModel", "in", "(JJJ)Z"⟩, ⟨"BrideDoorsModel", "no", "(I)J"⟩, ⟨"BrideDoorsModel", "isTwo", "(I)Z"⟩, ⟨"BrideDoorsModel", "isIn", "(II)Z"⟩, ⟨"BrideDoorsModel", "ones", "(I)I"⟩, ⟨"BrideDoorsModel", "lesser", "(II)I"⟩, ⟨"BrideDoorsModel", "greater", "(II)I"⟩, ⟨"BrideDoorsModel", "part", "(JJI)J"⟩, ⟨"BrideDoorsModel", "finds", "(I)I"⟩, ⟨"BrideDoorsModel", "isSheet", "(I)Z"⟩, ⟨"BrideDoorsModel", "sheet", "(III)I"⟩, ⟨"BrideDoorsModel", "lose", "(I)I"⟩, ⟨"BrideDoorsModel", "lacks", "(III)I"⟩, ⟨"BrideDoorsModel", "cut", "(II)I"⟩, ⟨"BrideDoorsModel", "lay", "(IIII)I"⟩, ⟨"BrideDoorsModel", "get", "(III)I"⟩, ⟨"BrideDoorsModel", "copy", "(IIIII)I"⟩, ⟨"BrideDoorsModel", "type", "(II)I"⟩, ⟨"BrideDoorsModel", "wipe", "(I)I"⟩, ⟨"BrideDoorsModel", "undo", "(I)I"⟩, ⟨"BrideDoorsModel", "letterOf", "(II)I"⟩, ⟨"BrideDoorsModel", "highOf", "(I)I"⟩, ⟨"BrideDoorsModel", "houseOf", "(II)I"⟩, ⟨"BrideDoorsModel", "readsHouses", "()I"⟩, ⟨"BrideDoorsModel", "figureOf", "(II)I"⟩, ⟨"BrideDoorsModel", "brideOf", "(II)I"⟩, ⟨"BrideDoorsModel", "readsBrides", "()I"⟩, ⟨"BrideDoorsModel", "readsText", "(I)I"⟩, ⟨"BrideDoorsModel", "fault", "(I)I"⟩, ⟨"BrideDoorsModel", "isHouse", "(I)Z"⟩, ⟨"BrideDoorsModel", "isBride", "(I)Z"⟩, ⟨"BrideDoorsModel", "isYear", "(I)Z"⟩, ⟨"BrideDoorsModel", "house", "(II)I"⟩, ⟨"BrideDoorsModel", "bride", "(II)I"⟩, ⟨"BrideDoorsModel", "keeps", "(III)V"⟩, ⟨"BrideDoorsModel", "event", "(III)I"⟩, ⟨"BrideDoorsModel", "back", "()I"⟩, ⟨"BrideDoorsModel", "read", "(I)I"⟩, ⟨"BrideDoorsModel", "hangsIn", "(II)Z"⟩, ⟨"BrideDoorsModel", "highestIn", "(I)I"⟩, ⟨"BrideDoorsModel", "lowestIn", "(I)I"⟩, ⟨"BrideDoorsModel", "saws", "(II)V"⟩, ⟨"BrideDoorsModel", "happens", "(II)V"⟩, ⟨"BrideDoorsModel", "comes", "(I)V"⟩, ⟨"BrideDoorsModel", "notes", "(I)V"⟩, ⟨"BrideDoorsModel", "passes", "(I)V"⟩, ⟨"BrideDoorsModel", "lives", "()V"⟩, ⟨"BrideDoorsModel", "find", "()V"⟩, ⟨"BrideDoorsModel", "gapOf", "(II)I"⟩, ⟨"BrideDoorsModel", "atBy", "(III)I"⟩, ⟨"BrideDoorsModel", "at", "(III)I"⟩, ⟨"BrideDoorsModel", "doorBy", "(III)I"⟩, ⟨"BrideDoorsModel", "door", "(III)I"⟩, ⟨"BrideDoorsModel", "draughtOf", "(I)I"⟩, ⟨"BrideDoorsModel", "draught", "(I)I"⟩, ⟨"BrideDoorsModel", "dogBy", "(I)I"⟩, ⟨"BrideDoorsModel", "dog", "(I)I"⟩, ⟨"BrideDoorsModel", "kinOf", "(I)I"⟩, ⟨"BrideDoorsModel", "kin", "(I)I"⟩, ⟨"BrideDoorsModel", "lowestNow", "()I"⟩, ⟨"BrideDoorsModel", "lowest", "()I"⟩, ⟨"BrideDoorsModel", "leftBy", "(I)I"⟩, ⟨"BrideDoorsModel", "left", "(I)I"⟩, ⟨"BrideDoorsModel", "burntNow", "()I"⟩, ⟨"BrideDoorsModel", "bestOf", "(IIIII)I"⟩, ⟨"BrideDoorsModel", "wed", "(II)I"⟩, ⟨"BrideDoorsModel", "when", "(II)I"⟩, ⟨"BrideDoorsModel", "from", "(II)I"⟩, ⟨"BrideDoorsModel", "isSpared", "(I)Z"⟩, ⟨"BrideDoorsModel", "spareBy", "(I)I"⟩, ⟨"BrideDoorsModel", "spare", "(I)I"⟩, ⟨"BrideDoorsModel", "seen", "(III)I"⟩, ⟨"BrideDoorsModel", "forget", "()I"⟩, ⟨"BrideDoorsModel", "isSeen", "()Z"⟩, ⟨"BrideDoorsModel", "neverNow", "()I"⟩, ⟨"BrideDoorsModel", "never", "()I"⟩, ⟨"BrideDoorsModel", "openedOf", "(I)I"⟩, ⟨"BrideDoorsModel", "sortOf", "(I)I"⟩, ⟨"BrideDoorsModel", "wasOf", "(II)I"⟩, ⟨"BrideDoorsModel", "was", "(II)I"⟩, ⟨"BrideDoorsModel", "alike", "(II)I"⟩, ⟨"BrideDoorsModel", "askOf", "(I)I"⟩, ⟨"BrideDoorsModel", "ask", "(I)I"⟩, ⟨"BrideDoorsModel", "chanceOf", "(III)J"⟩, ⟨"BrideDoorsModel", "chance", "(III)J"⟩, ⟨"BrideDoorsModel", "lot", "(I)I"⟩, ⟨"BrideDoorsModel", "agesOf", "(III)I"⟩, ⟨"BrideDoorsModel", "ages", "(III)I"⟩, ⟨"BrideDoorsModel", "write", "(II)I"⟩, ⟨"BrideDoorsModel", "count", "(I)I"⟩, ⟨"BrideDoorsModel", "tellsYear", "(JII)J"⟩, ⟨"BrideDoorsModel", "tellsHouse", "(JI)J"⟩, ⟨"BrideDoorsModel", "tellsDoor", "(JII)J"⟩, ⟨"BrideDoorsModel", "tellsBride", "(JI)J"⟩, ⟨"BrideDoorsModel", "digest", "()J"⟩, ⟨"BrideDoorsLaw", "law", "([I)Z"⟩]
def n_cs : List ByteArray := [prog_11_method_49_code, prog_13_method_54_code, prog_13_method_79_code, prog_13_method_80_code, prog_13_method_152_code, prog_13_method_154_code, prog_14_method_4_code, prog_14_method_22_code, prog_14_method_23_code, prog_17_method_103_code, prog_2_method_2_code, prog_3_method_2_code, prog_4_method_2_code, prog_4_method_3_code, prog_4_method_4_code, prog_4_method_5_code, prog_4_method_6_code, prog_5_method_2_code, prog_5_method_3_code, prog_5_method_4_code, prog_5_method_5_code, prog_6_method_3_code, prog_6_method_4_code, prog_6_method_5_code, prog_6_method_6_code, prog_7_method_2_code, prog_7_method_3_code, prog_7_method_4_code, prog_7_method_5_code, prog_7_method_6_code, prog_7_method_7_code, prog_7_method_8_code, prog_7_method_9_code, prog_7_method_10_code, prog_7_method_11_code, prog_7_method_12_code, prog_7_method_13_code, prog_7_method_14_code, prog_7_method_15_code, prog_7_method_16_code, prog_7_method_17_code, prog_1_method_2_code, prog_1_method_3_code, prog_1_method_4_code, prog_1_method_5_code, prog_1_method_6_code, prog_1_method_7_code, prog_1_method_8_code, prog_1_method_9_code, prog_1_method_10_code, prog_1_method_11_code, prog_1_method_12_code, prog_1_method_13_code, prog_1_method_14_code, prog_1_method_15_code, prog_1_method_16_code, prog_1_method_17_code, prog_1_method_18_code, prog_1_method_19_code, prog_1_method_20_code, prog_1_method_21_code, prog_1_method_22_code, prog_1_method_23_code, prog_1_method_24_code, prog_1_method_25_code, prog_1_method_26_code, prog_1_method_27_code, prog_1_method_28_code, prog_1_method_29_code, prog_1_method_30_code, prog_1_method_31_code, prog_1_method_32_code, prog_1_method_33_code, prog_1_method_34_code, prog_1_method_35_code, prog_1_method_36_code, prog_1_method_37_code, prog_1_method_38_code, prog_1_method_39_code, prog_1_method_40_code, prog_1_method_41_code, prog_1_method_42_code, prog_1_method_43_code, prog_1_method_44_code, prog_1_method_45_code, prog_1_method_46_code, prog_1_method_47_code, prog_1_method_48_code, prog_1_method_49_code, prog_1_method_50_code, prog_1_method_51_code, prog_1_method_52_code, prog_1_method_53_code, prog_1_method_54_code, prog_1_method_55_code, prog_1_method_56_code, prog_1_method_57_code, prog_1_method_58_code, prog_1_method_59_code, prog_1_method_60_code, prog_1_method_61_code, prog_1_method_62_code, prog_9_method_3_code, prog_9_method_4_code, prog_9_method_5_code, prog_9_method_6_code, prog_9_method_7_code, prog_9_method_8_code, prog_9_method_9_code, prog_9_method_10_code, prog_9_method_11_code, prog_9_method_12_code, prog_9_method_13_code, prog_9_method_14_code, prog_9_method_15_code, prog_9_method_16_code, prog_9_method_17_code, prog_9_method_18_code, prog_9_method_19_code, prog_9_method_20_code, prog_9_method_21_code, prog_9_method_22_code, prog_9_method_23_code, prog_9_method_24_code, prog_9_method_25_code, prog_9_method_26_code, prog_9_method_27_code, prog_9_method_28_code, prog_9_method_29_code, prog_9_method_30_code, prog_9_method_31_code, prog_9_method_32_code, prog_9_method_33_code, prog_9_method_34_code, prog_9_method_35_code, prog_9_method_36_code, prog_9_method_37_code, prog_9_method_38_code, prog_9_method_39_code, prog_9_method_40_code, prog_9_method_41_code, prog_9_method_42_code, prog_9_method_43_code, prog_9_method_44_code, prog_9_method_45_code, prog_9_method_46_code, prog_9_method_47_code, prog_9_method_48_code, prog_9_method_49_code, prog_9_method_50_code, prog_9_method_51_code, prog_9_method_52_code, prog_9_method_53_code, prog_9_method_54_code, prog_9_method_55_code, prog_9_method_56_code, prog_9_method_57_code, prog_9_method_58_code, prog_9_method_59_code, prog_9_method_60_code, prog_9_method_61_code, prog_9_method_62_code, prog_9_method_63_code, prog_9_method_64_code, prog_9_method_65_code, prog_9_method_66_code, prog_9_method_67_code, prog_9_method_68_code, prog_9_method_69_code, prog_9_method_70_code, prog_9_method_71_code, prog_9_method_72_code, prog_9_method_73_code, prog_9_method_74_code, prog_9_method_75_code, prog_9_method_76_code, prog_9_method_77_code, prog_9_method_78_code, prog_9_method_79_code, prog_9_method_80_code, prog_9_method_81_code, prog_9_method_82_code, prog_9_method_83_code, prog_9_method_84_code, prog_9_method_85_code, prog_9_method_86_code, prog_9_method_87_code, prog_9_method_88_code, prog_9_method_89_code, prog_9_method_90_code, prog_9_method_91_code, prog_9_method_92_code, prog_9_method_93_code, prog_9_method_94_code, prog_9_method_95_code, prog_9_method_96_code, prog_9_method_97_code, code]
def n_rs : List (Option FieldType) := [(some .int), (some .int), (some .int), (some .int), (some .byte), (some .boolean), (some .boolean), (some .int), (some .int), none, (some .int), (some .int), none, (some .int), (some .boolean), none, (some .int), (some .boolean), (some .boolean), (some .boolean), none, (some .boolean), none, none, none, none, none, none, none, none, none, (some .int), (some .int), (some .int), (some .int), (some .int), (some .int), (some .int), (some .int), (some .int), (some .int), (some .int), (some .int), (some .int), (some .int), (some .int), (some .int), (some .int), (some .int), (some .int), (some .int), (some .int), (some .int), (some .int), (some .int), (some .int), (some .int), (some .int), (some .int), (some .int), (some .int), (some .int), (some .int), (some .int), (some .int), (some .int), (some .int), (some .int), (some .int), (some .int), (some .long), (some .int), (some .boolean), (some .boolean), (some .int), none, (some .int), (some .long), none, (some .int), (some .int), (some .int), (some .int), (some .int), (some .int), (some .int), (some .int), (some .long), (some .long), (some .long), (some .long), (some .long), (some .boolean), (some .boolean), (some .int), (some .int), (some .boolean), (some (.object "BrideDoors$Text")), (some (.object "BrideDoors$Sheet")), (some .int), none, (some .int), (some .boolean), (some .long), (some .boolean), (some .boolean), (some .int), (some .int), (some .int), (some .long), (some .int), (some .boolean), (some .int), (some .int), (some .int), (some .int), (some .int), (some .int), (some .int), (some .int), (some .int), (some .int), (some .int), (some .int), (some .int), (some .int), (some .int), (some .int), (some .int), (some .int), (some .int), (some .boolean), (some .boolean), (some .boolean), (some .int), (some .int), none, (some .int), (some .int), (some .int), (some .boolean), (some .int), (some .int), none, none, none, none, none, none, none, (some .int), (some .int), (some .int), (some .int), (some .int), (some .int), (some .int), (some .int), (some .int), (some .int), (some .int), (some .int), (some .int), (some .int), (some .int), (some .int), (some .int), (some .int), (some .int), (some .int), (some .boolean), (some .int), (some .int), (some .int), (some .int), (some .boolean), (some .int), (some .int), (some .int), (some .int), (some .int), (some .int), (some .int), (some .int), (some .int), (some .long), (some .long), (some .int), (some .int), (some .int), (some .int), (some .int), (some .long), (some .long), (some .long), (some .long), (some .long), (some .boolean)]
def n_frs : List Nat := [0, 1, 3, 2, 0, 0, 0, 1, 0, 0, 3, 4, 1, 1, 0, 1, 0, 0, 0, 1, 0, 0, 6, 6, 5, 0, 2, 1, 0, 0, 1, 0, 0, 0, 0, 0, 0, 1, 2, 1, 0, 7, 7, 7, 1, 2, 2, 2, 0, 2, 4, 4, 4, 3, 1, 4, 4, 5, 5, 5, 5, 4, 0, 4, 1, 1, 0, 4, 5, 5, 4, 3, 3, 2, 4, 3, 1, 1, 1, 0, 2, 2, 2, 2, 2, 3, 5, 7, 6, 5, 1, 0, 0, 0, 1, 2, 1, 0, 1, 0, 3, 3, 0, 0, 1, 0, 0, 0, 0, 0, 0, 1, 2, 2, 1, 0, 2, 2, 2, 2, 2, 2, 1, 1, 2, 3, 1, 2, 3, 4, 5, 1, 1, 1, 4, 4, 0, 2, 0, 3, 0, 1, 1, 0, 2, 2, 2, 3, 4, 5, 0, 1, 6, 0, 6, 1, 6, 1, 6, 2, 4, 0, 6, 0, 6, 0, 5, 6, 6, 6, 5, 6, 7, 2, 0, 5, 6, 7, 6, 6, 7, 8, 1, 7, 8, 5, 6, 0, 5, 6, 6, 6, 2, 8, 1, 6, 9, 10]
def n_los : List Nat := [0, 20, 70, 48, 0, 0, 0, 25, 0, 0, 64, 91, 23, 21, 0, 21, 0, 0, 0, 21, 0, 0, 138, 138, 113, 0, 46, 23, 0, 0, 23, 0, 0, 0, 0, 0, 0, 23, 44, 23, 0, 159, 159, 159, 21, 43, 43, 43, 0, 43, 91, 91, 91, 70, 21, 91, 91, 118, 118, 118, 114, 91, 0, 91, 21, 23, 0, 92, 119, 119, 91, 70, 70, 44, 92, 70, 21, 21, 23, 0, 45, 42, 43, 43, 100, 70, 112, 169, 142, 118, 23, 0, 0, 0, 21, 43, 21, 0, 21, 0, 70, 70, 0, 0, 25, 0, 0, 0, 0, 0, 0, 25, 45, 45, 25, 0, 48, 48, 45, 45, 45, 45, 25, 25, 45, 66, 25, 46, 67, 91, 112, 25, 25, 25, 90, 91, 0, 45, 0, 68, 0, 22, 22, 0, 45, 46, 45, 72, 94, 115, 0, 22, 135, 0, 135, 22, 135, 22, 135, 46, 91, 0, 135, 0, 135, 0, 115, 146, 146, 146, 115, 136, 159, 45, 0, 115, 138, 160, 138, 138, 163, 185, 21, 163, 187, 115, 144, 0, 115, 142, 135, 135, 46, 187, 24, 146, 212, 235]
def n_lbs : List (List Nat) := [[0], [0], [0], [0, 23, 36], [0, 13, 14], [0, 17, 18], [0, 15, 16], [0, 9, 29], [0, 7, 25, 31], [0, 5, 20], [0, 28, 37, 46, 55], [0, 14, 18], [0], [0, 9, 19, 34, 35], [0, 30, 31], [0, 22], [0, 32, 35, 38], [0, 15, 16], [0, 16, 17], [0, 26, 27], [0, 65], [0, 16, 17], [0, 36], [0], [0, 14, 37, 38, 60, 71, 90, 96, 109, 125, 131, 149, 153, 154, 164, 168, 192, 193], [0, 17, 51, 53, 120, 122, 155], [0, 2, 21, 24, 92, 98, 101, 169, 175, 181], [0, 13, 30, 40], [0, 2, 53, 59], [0, 29], [0, 19, 41], [0, 30, 55, 57, 75, 76], [0, 52, 54, 63, 64, 65], [0, 4, 45, 47, 53], [0, 4, 45, 47, 53], [0, 24, 25], [0, 4, 28, 34], [0, 30, 31], [0, 4, 29], [0, 4, 30, 36], [0, 4, 31, 37], [0, 20, 23, 33], [0, 13], [0, 13, 23], [0, 15, 19], [0, 26, 28], [0, 26, 28], [0, 12, 25], [0, 13], [0, 13, 26, 31, 98, 120], [0, 28, 31, 68, 78, 87, 103, 119], [0, 28, 31, 64, 74, 84], [0, 12], [0, 11, 25, 42, 84, 85, 86, 92, 98], [0, 14, 28, 63], [0, 10, 60, 62, 68], [0, 11, 31, 39], [0, 19, 22], [0, 19, 22], [0, 19, 22], [0, 10, 13, 25, 37, 42], [0, 19, 39, 86, 90, 96], [0, 7, 18, 22], [0, 10, 12, 37, 43, 45, 60, 89, 95, 101], [0, 4, 25, 28, 34], [0, 27, 30, 43], [0], [0, 4, 31, 37], [0, 19, 22, 38, 46], [0, 14, 32, 53, 59], [0, 28, 32, 38, 77, 83, 94, 124, 139, 141], [0, 17, 20, 62, 73], [0, 14, 39, 45], [0, 2, 73, 75, 81], [0, 19, 56, 62], [0, 23, 42, 70, 125, 131, 137], [0, 4, 32], [0, 5, 35, 37, 45], [0, 13, 75], [0], [0, 26, 29, 39], [0, 13, 26], [0, 20, 23, 44], [0, 20, 24, 49], [0, 24, 27, 43, 49, 68, 91, 97], [0, 21, 24, 37, 63, 101], [0, 52, 60, 68, 76, 84, 92, 99, 117, 125, 130], [0, 6, 29, 51, 75, 77, 101, 103, 126], [0, 26, 38, 71, 77], [0, 6, 33, 36, 48, 81, 87], [0], [0], [0, 13, 14], [0, 12, 13], [0, 16, 17], [0, 18, 21], [0, 30, 31], [0, 9, 21, 22], [0, 17, 18], [0], [0], [0, 20, 34, 79], [0, 17, 18], [0], [0], [0, 13, 14], [0, 4, 20], [0, 9, 10], [0, 9, 10], [0, 6, 31, 40, 41], [0], [0], [0, 25, 28, 38, 55, 80], [0, 10, 25], [0, 15, 31, 53, 58], [0, 9, 19, 20], [0, 19, 22, 39], [0, 29, 32], [0, 14, 17, 35, 41, 62, 111, 117, 120, 154, 157, 192], [0, 19, 22, 37, 39, 45], [0, 10], [0, 10, 22], [0, 20, 22], [0, 23, 25], [0, 14, 24, 34, 36, 37, 49, 59, 61], [0, 14, 49, 68, 82, 83, 93, 111], [0, 23, 25], [0, 32, 38, 45, 52, 57, 67, 69], [0, 14, 52, 71, 85, 86, 96, 114], [0, 11, 15], [0, 15, 17], [0], [0], [0], [0, 33, 35], [0, 38, 40], [0], [0, 31, 34, 46], [0, 10], [0, 10, 25, 29, 93, 94, 104, 105, 110], [0, 26, 27], [0, 4, 41, 45, 46, 53], [0, 4, 41, 45, 46, 53], [0], [0, 7, 41, 47, 48, 60, 65, 84, 85, 86], [0, 29, 39, 40, 65, 73, 96, 108, 133, 163, 165], [0, 2, 15, 39, 40, 48, 95, 105, 124, 134, 141, 143, 208], [0, 2, 57, 63, 65, 92, 98], [0, 2, 32, 34, 67, 69, 86], [0], [0], [0, 40, 48, 56, 64, 72], [0, 41, 43], [0, 22, 37, 44], [0, 41, 43], [0, 4, 27], [0, 19, 21], [0, 2, 10, 50, 51, 52, 58, 64], [0, 19, 21], [0, 13, 44], [0, 21, 23], [0, 4, 42, 46, 47, 54], [0], [0, 4, 36, 37, 45, 47, 77, 78, 86], [0, 19, 21], [0, 4, 27, 28, 36], [0, 27, 73, 75, 86, 92, 112, 117, 119], [0, 34, 36], [0, 32, 34], [0, 32, 34], [0, 26, 27], [0, 17, 18, 19, 21, 48, 56, 57, 58, 64, 66, 78, 109, 117, 118, 119, 125, 131], [0, 24, 26], [0, 31, 34, 46], [0], [0, 8, 69, 70, 77], [0, 4, 33, 34, 42], [0], [0, 16, 50, 51, 56, 89, 95], [0, 14, 45, 46, 54], [0, 12, 17], [0, 28, 30], [0, 5, 18, 76, 77, 86, 99], [0, 11, 39, 40, 47], [0, 20, 22], [0, 6, 43, 44, 49, 78, 80, 89, 102], [0, 41, 46], [0], [0, 9, 36, 49, 90, 97, 124, 143, 151], [0, 33, 35], [0, 19, 22, 37, 52, 92], [0, 56, 61, 66, 75, 80, 87, 92, 97, 102], [0, 6, 37], [0], [0, 6, 37], [0, 10, 43, 86, 121, 124, 157, 160, 193], [0, 6, 31, 33, 57, 59, 80, 82, 103, 109, 134], [16, 18, 188, 221, 244, 267, 290, 323, 356, 399, 412, 435, 478, 521, 544, 567, 590, 603, 626, 659, 692, 725, 748, 791, 804, 817, 850, 873, 917, 960, 1003, 1026, 1079, 1122, 1185, 1218, 1241, 1255, 1261]]
def n_pcs : List Nat := [607, 327, 313, 317, 331, 321, 337, 334, 346, 604, 300, 308, 685, 698, 720, 703, 707, 441, 469, 425, 445, 281, 287, 407, 291, 477, 481, 488, 492, 500, 509, 513, 517, 496, 504, 527, 522, 532, 545, 566, 570, 268, 401, 413, 417, 421, 430, 434, 449, 453, 465, 537, 541, 550, 554, 558, 562, 574, 585, 589, 593, 578, 581, 597, 613, 618, 622, 626, 638, 646, 659, 669, 630, 634, 642, 650, 654, 664, 673, 676, 681, 690, 694, 711, 716, 727, 732, 737, 748, 759, 767, 742, 275, 484, 294, 304, 437, 272, 457, 461, 473, 601, 881, 1201, 917, 1017, 1219, 1047, 1028, 1198, 886, 877, 874, 890, 898, 901, 894, 905, 910, 914, 922, 926, 960, 944, 941, 938, 956, 953, 950, 934, 930, 968, 976, 983, 964, 972, 989, 980, 993, 997, 1025, 1036, 1040, 1032, 1021, 1044, 1051, 1014, 1010, 1006, 1060, 1056, 1002, 1068, 1064, 1076, 1072, 1084, 1080, 1092, 1088, 1100, 1096, 1108, 1104, 1231, 1116, 1112, 1120, 1124, 1137, 1133, 1128, 1141, 1146, 1158, 1154, 1150, 1170, 1174, 1166, 1162, 1186, 1182, 1178, 1195, 1190, 1215, 1211, 1206, 1223, 1227, 1246, 1242, 1254, 1250, 1235, 0]
def n_pst : List Nat := [606, 0, 0, 0, 0, 0, 336, 333, 345, 603, 0, 0, 0, 0, 0, 0, 0, 0, 0, 0, 0, 0, 0, 0, 0, 0, 0, 0, 0, 0, 0, 0, 0, 0, 0, 0, 0, 0, 0, 0, 0, 0, 0, 0, 0, 0, 0, 0, 0, 0, 0, 0, 0, 0, 0, 0, 0, 0, 0, 0, 0, 0, 580, 0, 612, 0, 0, 0, 0, 0, 0, 0, 0, 0, 0, 0, 0, 0, 0, 675, 0, 0, 0, 0, 0, 0, 0, 0, 0, 0, 766, 741, 274, 483, 293, 303, 436, 0, 0, 0, 0, 0, 880, 1200, 916, 1016, 1218, 1046, 1027, 1197, 0, 876, 0, 0, 0, 900, 0, 0, 0, 0, 0, 0, 959, 943, 940, 0, 955, 952, 0, 0, 0, 0, 0, 982, 0, 0, 0, 0, 0, 0, 0, 0, 0, 0, 0, 0, 0, 0, 0, 0, 0, 0, 0, 0, 0, 0, 0, 0, 0, 0, 0, 0, 0, 0, 0, 0, 0, 0, 0, 0, 0, 0, 0, 0, 0, 0, 0, 0, 0, 0, 0, 0, 0, 0, 0, 0, 0, 0, 0, 0, 0, 0, 0, 0, 0, 0, 0, 0]
def n_pin : List Nat := [0, 325, 311, 315, 329, 319, 0, 0, 0, 0, 299, 307, 683, 696, 718, 701, 706, 439, 467, 423, 443, 277, 283, 403, 290, 475, 479, 487, 491, 499, 508, 512, 516, 494, 502, 525, 520, 530, 543, 564, 568, 266, 399, 411, 415, 419, 428, 432, 447, 451, 463, 535, 539, 548, 552, 556, 560, 572, 583, 587, 591, 577, 0, 596, 0, 616, 620, 624, 636, 644, 657, 667, 629, 633, 641, 649, 653, 663, 672, 0, 679, 688, 692, 709, 714, 725, 730, 735, 747, 758, 0, 0, 0, 0, 0, 0, 0, 271, 456, 460, 472, 600, 0, 0, 0, 0, 0, 0, 0, 0, 885, 0, 872, 888, 897, 0, 892, 903, 908, 912, 920, 924, 0, 0, 0, 937, 0, 0, 949, 933, 928, 967, 975, 0, 962, 970, 988, 978, 991, 995, 1024, 1035, 1039, 1031, 1020, 1043, 1050, 1013, 1009, 1005, 1059, 1055, 1000, 1067, 1062, 1075, 1070, 1083, 1078, 1091, 1086, 1099, 1094, 1107, 1102, 1230, 1115, 1110, 1118, 1122, 1136, 1132, 1126, 1139, 1144, 1157, 1153, 1148, 1169, 1173, 1165, 1160, 1185, 1181, 1176, 1194, 1188, 1214, 1210, 1204, 1221, 1225, 1245, 1241, 1253, 1249, 1233, 0]
def n_pii : List Nat := [85, 78, 78, 78, 78, 78, 79, 79, 79, 84, 74, 73, 76, 76, 76, 76, 76, 71, 71, 71, 71, 72, 72, 72, 72, 75, 75, 75, 75, 75, 75, 75, 75, 75, 75, 75, 75, 75, 75, 75, 75, 70, 70, 70, 70, 70, 70, 70, 70, 70, 70, 70, 70, 70, 70, 70, 70, 70, 70, 70, 70, 70, 70, 70, 70, 70, 70, 70, 70, 70, 70, 70, 70, 70, 70, 70, 70, 70, 70, 70, 70, 70, 70, 70, 70, 70, 70, 70, 70, 70, 70, 70, 70, 70, 70, 70, 70, 70, 70, 70, 70, 70, 77, 77, 77, 77, 77, 77, 77, 77, 77, 77, 77, 77, 77, 77, 77, 77, 77, 77, 77, 77, 77, 77, 77, 77, 77, 77, 77, 77, 77, 77, 77, 77, 77, 77, 77, 77, 77, 77, 77, 77, 77, 77, 77, 77, 77, 77, 77, 77, 77, 77, 77, 77, 77, 77, 77, 77, 77, 77, 77, 77, 77, 77, 77, 77, 77, 77, 77, 77, 77, 77, 77, 77, 77, 77, 77, 77, 77, 77, 77, 77, 77, 77, 77, 77, 77, 77, 77, 77, 77, 77, 77, 77, 77, 77, 77, 69]
def n_pse : List Nat := [0, 326, 312, 316, 330, 320, 0, 0, 0, 0, 0, 0, 684, 697, 719, 702, 22, 440, 468, 424, 444, 0, 0, 0, 0, 476, 480, 6, 7, 8, 9, 10, 11, 495, 503, 526, 521, 531, 544, 565, 569, 267, 400, 412, 416, 420, 429, 433, 448, 452, 464, 536, 540, 549, 553, 557, 561, 573, 584, 588, 592, 12, 0, 13, 0, 617, 621, 625, 637, 645, 658, 668, 15, 16, 17, 18, 19, 20, 21, 0, 680, 689, 693, 710, 715, 726, 731, 736, 23, 24, 0, 0, 0, 0, 0, 0, 0, 2, 3, 4, 5, 14, 0, 0, 0, 0, 0, 0, 0, 0, 25, 0, 873, 889, 26, 0, 893, 904, 909, 913, 921, 925, 0, 0, 0, 28, 0, 0, 29, 27, 929, 30, 31, 0, 963, 971, 32, 979, 992, 996, 37, 39, 40, 38, 36, 41, 42, 35, 34, 33, 44, 43, 1001, 45, 1063, 46, 1071, 47, 1079, 48, 1087, 49, 1095, 50, 1103, 64, 51, 1111, 1119, 1123, 53, 52, 1127, 1140, 1145, 55, 54, 1149, 57, 58, 56, 1161, 60, 59, 1177, 61, 1189, 63, 62, 1205, 1222, 1226, 66, 65, 68, 67, 1234, 0]
def n_kds : List Nat := [9, 7, 7, 7, 7, 7, 5, 5, 8, 6, 6, 6, 6, 2, 2, 2, 2, 4, 2, 2, 3, 3, 3, 3, 3, 2, 2, 2, 2, 2, 2, 2, 2, 2, 2, 2, 2, 2, 2, 2, 2, 2, 2, 2, 2, 2, 2, 10, 2, 2, 2, 2, 2, 2, 2, 2, 2, 2, 2, 2, 2, 2, 2, 2, 2, 2, 2, 2, 2, 2, 2]
def n_cis : List Nat := [5, 3, 3, 3, 3, 3, 1, 0, 4, 2, 2, 2, 2, 9, 9, 9, 9, 9, 9, 9, 9, 9, 9, 9, 9, 9, 9, 9, 9, 9, 9, 9, 9, 9, 9, 9, 9, 9, 9, 9, 9, 9, 9, 9, 9, 9, 9, 6, 9, 9, 9, 9, 9, 9, 9, 9, 9, 9, 9, 9, 9, 9, 9, 9, 9, 9, 9, 9, 9, 9, 9]
