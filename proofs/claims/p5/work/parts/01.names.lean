-- names of the classes and their fields, out of the text that TURN prints of the program
def RX0 : String := "HungerDays$Book"
def TX0 : u_T := fun k => match k with
  | 0 => ("HungerDays$Book", "reader", "LHungerDays$Reader;", true)
  | 1 => ("HungerDays$Book", "valley", "LHungerDays$Valley;", true)
  | 2 => ("HungerDays$Book", "lines", "I", false)
  | 3 => ("HungerDays$Book", "word", "[I", true)
  | 4 => ("HungerDays$Book", "who", "[I", true)
  | 5 => ("HungerDays$Book", "what", "[I", true)
  | 6 => ("HungerDays$Book", "whyWrong", "I", false)
  | 7 => ("HungerDays$Book", "goodLines", "I", false)
  | 8 => ("HungerDays$Book", "hourThen", "I", false)
  | _ => ("HungerDays$Book", "heldThen", "I", false)
def tyX0 : Nat → FieldType := fun k => match k with
  | 0 => .object "HungerDays$Reader"
  | 1 => .object "HungerDays$Valley"
  | 2 => .int
  | 3 => .array .int
  | 4 => .array .int
  | 5 => .array .int
  | 6 => .int
  | 7 => .int
  | 8 => .int
  | _ => .int
theorem nmX0 : ∀ a, a < 10 → ∀ b, b < 10 → a ≠ b → (TX0 a).2.1 ≠ (TX0 b).2.1 := by decide +kernel
theorem tyX0_ok : ∀ k, k < 10 → parseFieldDescriptor (TX0 k).2.2.1 = some (tyX0 k) := by decide +kernel
def RX1 : String := "HungerDays$Draws"
def TX1 : u_T := fun k => match k with
  | _ => ("HungerDays$Draws", "x", "I", false)
def tyX1 : Nat → FieldType := fun k => match k with
  | _ => .int
theorem nmX1 : ∀ a, a < 1 → ∀ b, b < 1 → a ≠ b → (TX1 a).2.1 ≠ (TX1 b).2.1 := by decide +kernel
theorem tyX1_ok : ∀ k, k < 1 → parseFieldDescriptor (TX1 k).2.2.1 = some (tyX1 k) := by decide +kernel
def RX2 : String := "HungerDays$History"
def TX2 : u_T := fun k => match k with
  | 0 => ("HungerDays$History", "states", "[LHungerDays$State;", true)
  | 1 => ("HungerDays$History", "next", "I", false)
  | _ => ("HungerDays$History", "size", "I", false)
def tyX2 : Nat → FieldType := fun k => match k with
  | 0 => .array (.object "HungerDays$State")
  | 1 => .int
  | _ => .int
theorem nmX2 : ∀ a, a < 3 → ∀ b, b < 3 → a ≠ b → (TX2 a).2.1 ≠ (TX2 b).2.1 := by decide +kernel
theorem tyX2_ok : ∀ k, k < 3 → parseFieldDescriptor (TX2 k).2.2.1 = some (tyX2 k) := by decide +kernel
def RX3 : String := "HungerDays$Image"
def TX3 : u_T := fun k => match k with
  | 0 => ("HungerDays$Image", "isKept", "Z", false)
  | 1 => ("HungerDays$Image", "valley", "LHungerDays$Valley;", true)
  | 2 => ("HungerDays$Image", "state", "LHungerDays$State;", true)
  | _ => ("HungerDays$Image", "sentence", "LHungerDays$Sentence;", true)
def tyX3 : Nat → FieldType := fun k => match k with
  | 0 => .boolean
  | 1 => .object "HungerDays$Valley"
  | 2 => .object "HungerDays$State"
  | _ => .object "HungerDays$Sentence"
theorem nmX3 : ∀ a, a < 4 → ∀ b, b < 4 → a ≠ b → (TX3 a).2.1 ≠ (TX3 b).2.1 := by decide +kernel
theorem tyX3_ok : ∀ k, k < 4 → parseFieldDescriptor (TX3 k).2.2.1 = some (tyX3 k) := by decide +kernel
def RX4 : String := "HungerDays$Plates"
def TX4 : u_T := fun k => match k with
  | 0 => ("HungerDays$Plates", "inEach", "I", false)
  | 1 => ("HungerDays$Plates", "tellsMost", "I", false)
  | _ => ("HungerDays$Plates", "seen", "[I", true)
def tyX4 : Nat → FieldType := fun k => match k with
  | 0 => .int
  | 1 => .int
  | _ => .array .int
theorem nmX4 : ∀ a, a < 3 → ∀ b, b < 3 → a ≠ b → (TX4 a).2.1 ≠ (TX4 b).2.1 := by decide +kernel
theorem tyX4_ok : ∀ k, k < 3 → parseFieldDescriptor (TX4 k).2.2.1 = some (tyX4 k) := by decide +kernel
def RX5 : String := "HungerDays$Reader"
def TX5 : u_T := fun k => match k with
  | 0 => ("HungerDays$Reader", "bytes", "[I", true)
  | 1 => ("HungerDays$Reader", "words", "[J", true)
  | 2 => ("HungerDays$Reader", "size", "I", false)
  | 3 => ("HungerDays$Reader", "mostBytes", "I", false)
  | 4 => ("HungerDays$Reader", "at", "I", false)
  | 5 => ("HungerDays$Reader", "kind", "I", false)
  | 6 => ("HungerDays$Reader", "start", "I", false)
  | 7 => ("HungerDays$Reader", "word", "J", false)
  | 8 => ("HungerDays$Reader", "keyword", "I", false)
  | 9 => ("HungerDays$Reader", "number", "I", false)
  | 10 => ("HungerDays$Reader", "sign", "I", false)
  | 11 => ("HungerDays$Reader", "faultKind", "I", false)
  | _ => ("HungerDays$Reader", "faultPlace", "I", false)
def tyX5 : Nat → FieldType := fun k => match k with
  | 0 => .array .int
  | 1 => .array .long
  | 2 => .int
  | 3 => .int
  | 4 => .int
  | 5 => .int
  | 6 => .int
  | 7 => .long
  | 8 => .int
  | 9 => .int
  | 10 => .int
  | 11 => .int
  | _ => .int
theorem nmX5 : ∀ a, a < 13 → ∀ b, b < 13 → a ≠ b → (TX5 a).2.1 ≠ (TX5 b).2.1 := by decide +kernel
theorem tyX5_ok : ∀ k, k < 13 → parseFieldDescriptor (TX5 k).2.2.1 = some (tyX5 k) := by decide +kernel
def RX6 : String := "HungerDays$Sentence"
def TX6 : u_T := fun k => match k with
  | 0 => ("HungerDays$Sentence", "ones", "I", false)
  | 1 => ("HungerDays$Sentence", "steps", "I", false)
  | 2 => ("HungerDays$Sentence", "word", "[I", true)
  | 3 => ("HungerDays$Sentence", "sign", "[I", true)
  | 4 => ("HungerDays$Sentence", "number", "[I", true)
  | 5 => ("HungerDays$Sentence", "stack", "[I", true)
  | _ => ("HungerDays$Sentence", "height", "I", false)
def tyX6 : Nat → FieldType := fun k => match k with
  | 0 => .int
  | 1 => .int
  | 2 => .array .int
  | 3 => .array .int
  | 4 => .array .int
  | 5 => .array .int
  | _ => .int
theorem nmX6 : ∀ a, a < 7 → ∀ b, b < 7 → a ≠ b → (TX6 a).2.1 ≠ (TX6 b).2.1 := by decide +kernel
theorem tyX6_ok : ∀ k, k < 7 → parseFieldDescriptor (TX6 k).2.2.1 = some (tyX6 k) := by decide +kernel
def RX7 : String := "HungerDays$State"
def TX7 : u_T := fun k => match k with
  | 0 => ("HungerDays$State", "valley", "LHungerDays$Valley;", true)
  | 1 => ("HungerDays$State", "hour", "I", false)
  | 2 => ("HungerDays$State", "ill", "I", false)
  | 3 => ("HungerDays$State", "unpaidHours", "I", false)
  | 4 => ("HungerDays$State", "hunger", "[I", true)
  | 5 => ("HungerDays$State", "coin", "[I", true)
  | 6 => ("HungerDays$State", "eaten", "[I", true)
  | 7 => ("HungerDays$State", "left", "[I", true)
  | 8 => ("HungerDays$State", "heldAt", "[I", true)
  | _ => ("HungerDays$State", "paidAt", "[I", true)
def tyX7 : Nat → FieldType := fun k => match k with
  | 0 => .object "HungerDays$Valley"
  | 1 => .int
  | 2 => .int
  | 3 => .int
  | 4 => .array .int
  | 5 => .array .int
  | 6 => .array .int
  | 7 => .array .int
  | 8 => .array .int
  | _ => .array .int
theorem nmX7 : ∀ a, a < 10 → ∀ b, b < 10 → a ≠ b → (TX7 a).2.1 ≠ (TX7 b).2.1 := by decide +kernel
theorem tyX7_ok : ∀ k, k < 10 → parseFieldDescriptor (TX7 k).2.2.1 = some (tyX7 k) := by decide +kernel
def RX8 : String := "HungerDays$Table"
def TX8 : u_T := fun k => match k with
  | 0 => ("HungerDays$Table", "set", "I", false)
  | 1 => ("HungerDays$Table", "date", "I", false)
  | 2 => ("HungerDays$Table", "plates", "[I", true)
  | 3 => ("HungerDays$Table", "seats", "I", false)
  | 4 => ("HungerDays$Table", "guests", "[I", true)
  | 5 => ("HungerDays$Table", "dates", "[I", true)
  | 6 => ("HungerDays$Table", "left", "[I", true)
  | 7 => ("HungerDays$Table", "leastFrom", "[I", true)
  | 8 => ("HungerDays$Table", "goal", "I", false)
  | 9 => ("HungerDays$Table", "memo", "[I", true)
  | _ => ("HungerDays$Table", "tries", "I", false)
def tyX8 : Nat → FieldType := fun k => match k with
  | 0 => .int
  | 1 => .int
  | 2 => .array .int
  | 3 => .int
  | 4 => .array .int
  | 5 => .array .int
  | 6 => .array .int
  | 7 => .array .int
  | 8 => .int
  | 9 => .array .int
  | _ => .int
theorem nmX8 : ∀ a, a < 11 → ∀ b, b < 11 → a ≠ b → (TX8 a).2.1 ≠ (TX8 b).2.1 := by decide +kernel
theorem tyX8_ok : ∀ k, k < 11 → parseFieldDescriptor (TX8 k).2.2.1 = some (tyX8 k) := by decide +kernel
def RX9 : String := "HungerDays$Valley"
def TX9 : u_T := fun k => match k with
  | 0 => ("HungerDays$Valley", "span", "I", false)
  | 1 => ("HungerDays$Valley", "winterFrom", "I", false)
  | 2 => ("HungerDays$Valley", "winterLong", "I", false)
  | 3 => ("HungerDays$Valley", "persons", "I", false)
  | 4 => ("HungerDays$Valley", "foods", "I", false)
  | 5 => ("HungerDays$Valley", "meetings", "I", false)
  | 6 => ("HungerDays$Valley", "debts", "I", false)
  | 7 => ("HungerDays$Valley", "personNames", "[J", true)
  | 8 => ("HungerDays$Valley", "foodNames", "[J", true)
  | 9 => ("HungerDays$Valley", "meetingNames", "[J", true)
  | 10 => ("HungerDays$Valley", "grows", "[I", true)
  | 11 => ("HungerDays$Valley", "hunger", "[I", true)
  | 12 => ("HungerDays$Valley", "coin", "[I", true)
  | 13 => ("HungerDays$Valley", "fills", "[I", true)
  | 14 => ("HungerDays$Valley", "store", "[I", true)
  | 15 => ("HungerDays$Valley", "crowd", "[I", true)
  | 16 => ("HungerDays$Valley", "debtor", "[I", true)
  | 17 => ("HungerDays$Valley", "creditor", "[I", true)
  | 18 => ("HungerDays$Valley", "amount", "[I", true)
  | _ => ("HungerDays$Valley", "dueDate", "[I", true)
def tyX9 : Nat → FieldType := fun k => match k with
  | 0 => .int
  | 1 => .int
  | 2 => .int
  | 3 => .int
  | 4 => .int
  | 5 => .int
  | 6 => .int
  | 7 => .array .long
  | 8 => .array .long
  | 9 => .array .long
  | 10 => .array .int
  | 11 => .array .int
  | 12 => .array .int
  | 13 => .array .int
  | 14 => .array .int
  | 15 => .array .int
  | 16 => .array .int
  | 17 => .array .int
  | 18 => .array .int
  | _ => .array .int
theorem nmX9 : ∀ a, a < 20 → ∀ b, b < 20 → a ≠ b → (TX9 a).2.1 ≠ (TX9 b).2.1 := by decide +kernel
theorem tyX9_ok : ∀ k, k < 20 → parseFieldDescriptor (TX9 k).2.2.1 = some (tyX9 k) := by decide +kernel
def RX10 : String := "HungerDays$ValleyText"
def TX10 : u_T := fun k => match k with
  | 0 => ("HungerDays$ValleyText", "reader", "LHungerDays$Reader;", true)
  | 1 => ("HungerDays$ValleyText", "valley", "LHungerDays$Valley;", true)
  | 2 => ("HungerDays$ValleyText", "spanTold", "Z", false)
  | _ => ("HungerDays$ValleyText", "winterTold", "Z", false)
def tyX10 : Nat → FieldType := fun k => match k with
  | 0 => .object "HungerDays$Reader"
  | 1 => .object "HungerDays$Valley"
  | 2 => .boolean
  | _ => .boolean
theorem nmX10 : ∀ a, a < 4 → ∀ b, b < 4 → a ≠ b → (TX10 a).2.1 ≠ (TX10 b).2.1 := by decide +kernel
theorem tyX10_ok : ∀ k, k < 4 → parseFieldDescriptor (TX10 k).2.2.1 = some (tyX10 k) := by decide +kernel
def RX11 : String := "HungerDays"
def TX11 : u_T := fun k => match k with
  | 0 => ("HungerDays", "tape", "[I", true)
  | 1 => ("HungerDays", "tapeSize", "I", false)
  | 2 => ("HungerDays", "reader", "LHungerDays$Reader;", true)
  | 3 => ("HungerDays", "faultKind", "I", false)
  | 4 => ("HungerDays", "valley", "LHungerDays$Valley;", true)
  | 5 => ("HungerDays", "spareValley", "LHungerDays$Valley;", true)
  | 6 => ("HungerDays", "valleyText", "LHungerDays$ValleyText;", true)
  | 7 => ("HungerDays", "state", "LHungerDays$State;", true)
  | 8 => ("HungerDays", "trial", "LHungerDays$State;", true)
  | 9 => ("HungerDays", "history", "LHungerDays$History;", true)
  | 10 => ("HungerDays", "images", "[LHungerDays$Image;", true)
  | 11 => ("HungerDays", "sentence", "LHungerDays$Sentence;", true)
  | 12 => ("HungerDays", "spareSentence", "LHungerDays$Sentence;", true)
  | 13 => ("HungerDays", "book", "LHungerDays$Book;", true)
  | 14 => ("HungerDays", "draws", "LHungerDays$Draws;", true)
  | 15 => ("HungerDays", "table", "LHungerDays$Table;", true)
  | _ => ("HungerDays", "ateFrom", "LHungerDays$Plates;", true)
def tyX11 : Nat → FieldType := fun k => match k with
  | 0 => .array .int
  | 1 => .int
  | 2 => .object "HungerDays$Reader"
  | 3 => .int
  | 4 => .object "HungerDays$Valley"
  | 5 => .object "HungerDays$Valley"
  | 6 => .object "HungerDays$ValleyText"
  | 7 => .object "HungerDays$State"
  | 8 => .object "HungerDays$State"
  | 9 => .object "HungerDays$History"
  | 10 => .array (.object "HungerDays$Image")
  | 11 => .object "HungerDays$Sentence"
  | 12 => .object "HungerDays$Sentence"
  | 13 => .object "HungerDays$Book"
  | 14 => .object "HungerDays$Draws"
  | 15 => .object "HungerDays$Table"
  | _ => .object "HungerDays$Plates"
theorem nmX11 : ∀ a, a < 17 → ∀ b, b < 17 → a ≠ b → (TX11 a).2.1 ≠ (TX11 b).2.1 := by decide +kernel
theorem tyX11_ok : ∀ k, k < 17 → parseFieldDescriptor (TX11 k).2.2.1 = some (tyX11 k) := by decide +kernel
def RX12 : String := "HungerDaysModel"
def TX12 : u_T := fun k => match k with
  | 0 => ("HungerDaysModel", "thrown", "I", false)
  | 1 => ("HungerDaysModel", "tape", "[B", true)
  | 2 => ("HungerDaysModel", "length", "I", false)
  | 3 => ("HungerDaysModel", "size", "I", false)
  | 4 => ("HungerDaysModel", "p", "I", false)
  | 5 => ("HungerDaysModel", "limit", "I", false)
  | 6 => ("HungerDaysModel", "s", "[I", true)
  | 7 => ("HungerDaysModel", "h", "[I", true)
  | 8 => ("HungerDaysModel", "read", "[I", true)
  | 9 => ("HungerDaysModel", "names", "[J", true)
  | 10 => ("HungerDaysModel", "reserved", "[J", true)
  | 11 => ("HungerDaysModel", "token", "I", false)
  | 12 => ("HungerDaysModel", "at", "I", false)
  | 13 => ("HungerDaysModel", "span", "I", false)
  | 14 => ("HungerDaysModel", "number", "I", false)
  | 15 => ("HungerDaysModel", "fault", "I", false)
  | 16 => ("HungerDaysModel", "faultAt", "I", false)
  | 17 => ("HungerDaysModel", "word", "J", false)
  | 18 => ("HungerDaysModel", "got", "I", false)
  | 19 => ("HungerDaysModel", "lines", "I", false)
  | 20 => ("HungerDaysModel", "onces", "I", false)
  | 21 => ("HungerDaysModel", "undone", "[I", true)
  | 22 => ("HungerDaysModel", "before", "[I", true)
  | 23 => ("HungerDaysModel", "undoMany", "I", false)
  | 24 => ("HungerDaysModel", "fewest", "[I", true)
  | 25 => ("HungerDaysModel", "plateRow", "[I", true)
  | 26 => ("HungerDaysModel", "plateMany", "I", false)
  | 27 => ("HungerDaysModel", "feastDate", "I", false)
  | 28 => ("HungerDaysModel", "surelySet", "I", false)
  | 29 => ("HungerDaysModel", "askFood", "I", false)
  | 30 => ("HungerDaysModel", "hasAte", "Z", false)
  | 31 => ("HungerDaysModel", "seen", "[I", true)
  | 32 => ("HungerDaysModel", "parts", "[I", true)
  | 33 => ("HungerDaysModel", "rests", "[I", true)
  | 34 => ("HungerDaysModel", "seed", "I", false)
  | 35 => ("HungerDaysModel", "toldMany", "I", false)
  | 36 => ("HungerDaysModel", "toldAt", "[I", true)
  | 37 => ("HungerDaysModel", "hasTold", "Z", false)
  | 38 => ("HungerDaysModel", "stack", "[I", true)
  | 39 => ("HungerDaysModel", "codes", "I", false)
  | 40 => ("HungerDaysModel", "ones", "I", false)
  | 41 => ("HungerDaysModel", "top", "I", false)
  | 42 => ("HungerDaysModel", "deep", "I", false)
  | 43 => ("HungerDaysModel", "isWhole", "Z", false)
  | 44 => ("HungerDaysModel", "truths", "[Z", true)
  | 45 => ("HungerDaysModel", "kept", "[I", true)
  | 46 => ("HungerDaysModel", "namesKept", "[J", true)
  | _ => ("HungerDaysModel", "areKept", "[Z", true)
def tyX12 : Nat → FieldType := fun k => match k with
  | 0 => .int
  | 1 => .array .byte
  | 2 => .int
  | 3 => .int
  | 4 => .int
  | 5 => .int
  | 6 => .array .int
  | 7 => .array .int
  | 8 => .array .int
  | 9 => .array .long
  | 10 => .array .long
  | 11 => .int
  | 12 => .int
  | 13 => .int
  | 14 => .int
  | 15 => .int
  | 16 => .int
  | 17 => .long
  | 18 => .int
  | 19 => .int
  | 20 => .int
  | 21 => .array .int
  | 22 => .array .int
  | 23 => .int
  | 24 => .array .int
  | 25 => .array .int
  | 26 => .int
  | 27 => .int
  | 28 => .int
  | 29 => .int
  | 30 => .boolean
  | 31 => .array .int
  | 32 => .array .int
  | 33 => .array .int
  | 34 => .int
  | 35 => .int
  | 36 => .array .int
  | 37 => .boolean
  | 38 => .array .int
  | 39 => .int
  | 40 => .int
  | 41 => .int
  | 42 => .int
  | 43 => .boolean
  | 44 => .array .boolean
  | 45 => .array .int
  | 46 => .array .long
  | _ => .array .boolean
theorem nmX12 : ∀ a, a < 48 → ∀ b, b < 48 → a ≠ b → (TX12 a).2.1 ≠ (TX12 b).2.1 := by decide +kernel
theorem tyX12_ok : ∀ k, k < 48 → parseFieldDescriptor (TX12 k).2.2.1 = some (tyX12 k) := by decide +kernel
def RL : String := "HungerDaysLaw"
abbrev vwCl : List vw_C := [(RX0, TX0, 10), (RX1, TX1, 1), (RX2, TX2, 3), (RX3, TX3, 4), (RX4, TX4, 3), (RX5, TX5, 13), (RX6, TX6, 7), (RX7, TX7, 10), (RX8, TX8, 11), (RX9, TX9, 20), (RX10, TX10, 4), (RX11, TX11, 17), (RX12, TX12, 48)]
