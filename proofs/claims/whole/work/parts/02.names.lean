def RX0 : String := "RainPurse$Forecast"
def TX0 : u_T := fun k => match k with
  | 0 => ("RainPurse$Forecast", "pays", "[I", true)
  | 1 => ("RainPurse$Forecast", "workedOutIn", "[I", true)
  | 2 => ("RainPurse$Forecast", "look", "I", false)
  | 3 => ("RainPurse$Forecast", "sums", "[I", true)
  | 4 => ("RainPurse$Forecast", "allPay", "[I", true)
  | 5 => ("RainPurse$Forecast", "leasts", "[I", true)
  | 6 => ("RainPurse$Forecast", "weights", "[I", true)
  | 7 => ("RainPurse$Forecast", "rows", "I", false)
  | 8 => ("RainPurse$Forecast", "rowsWanted", "I", false)
  | 9 => ("RainPurse$Forecast", "wanted", "I", false)
  | 10 => ("RainPurse$Forecast", "field", "I", false)
  | 11 => ("RainPurse$Forecast", "length", "I", false)
  | _ => ("RainPurse$Forecast", "summed", "Z", false)
def tyX0 : Nat → FieldType := fun k => match k with
  | 0 => .array .int
  | 1 => .array .int
  | 2 => .int
  | 3 => .array .int
  | 4 => .array .int
  | 5 => .array .int
  | 6 => .array .int
  | 7 => .int
  | 8 => .int
  | 9 => .int
  | 10 => .int
  | 11 => .int
  | _ => .boolean
abbrev wsX00 : List Cond := u_ws RX0 TX0 13
theorem nmX0 : ∀ a, a < 13 → ∀ b, b < 13 → a ≠ b → (TX0 a).2.1 ≠ (TX0 b).2.1 := by decide +kernel
theorem tyX0_ok : ∀ k, k < 13 → parseFieldDescriptor (TX0 k).2.2.1 = some (tyX0 k) := by decide +kernel
def RX1 : String := "RainPurse$Gauges"
def TX1 : u_T := fun k => match k with
  | 0 => ("RainPurse$Gauges", "wrongly", "I", false)
  | 1 => ("RainPurse$Gauges", "least", "I", false)
  | 2 => ("RainPurse$Gauges", "surely", "I", false)
  | 3 => ("RainPurse$Gauges", "maybe", "I", false)
  | _ => ("RainPurse$Gauges", "agree", "[I", true)
def tyX1 : Nat → FieldType := fun k => match k with
  | 0 => .int
  | 1 => .int
  | 2 => .int
  | 3 => .int
  | _ => .array .int
abbrev wsX10 : List Cond := u_ws RX1 TX1 5
theorem nmX1 : ∀ a, a < 5 → ∀ b, b < 5 → a ≠ b → (TX1 a).2.1 ≠ (TX1 b).2.1 := by decide +kernel
theorem tyX1_ok : ∀ k, k < 5 → parseFieldDescriptor (TX1 k).2.2.1 = some (tyX1 k) := by decide +kernel
def RX2 : String := "RainPurse$Reader"
def TX2 : u_T := fun k => match k with
  | 0 => ("RainPurse$Reader", "draft", "LRainPurse$Text;", true)
  | 1 => ("RainPurse$Reader", "bytes", "LRainPurse$Row;", true)
  | 2 => ("RainPurse$Reader", "place", "I", false)
  | _ => ("RainPurse$Reader", "use", "I", false)
def tyX2 : Nat → FieldType := fun k => match k with
  | 0 => .object "RainPurse$Text"
  | 1 => .object "RainPurse$Row"
  | 2 => .int
  | _ => .int
abbrev wsX20 : List Cond := u_ws RX2 TX2 4
theorem nmX2 : ∀ a, a < 4 → ∀ b, b < 4 → a ≠ b → (TX2 a).2.1 ≠ (TX2 b).2.1 := by decide +kernel
theorem tyX2_ok : ∀ k, k < 4 → parseFieldDescriptor (TX2 k).2.2.1 = some (tyX2 k) := by decide +kernel
def RX3 : String := "RainPurse$Row"
def TX3 : u_T := fun k => match k with
  | 0 => ("RainPurse$Row", "numbers", "[I", true)
  | _ => ("RainPurse$Row", "size", "I", false)
def tyX3 : Nat → FieldType := fun k => match k with
  | 0 => .array .int
  | _ => .int
abbrev wsX30 : List Cond := u_ws RX3 TX3 2
theorem nmX3 : ∀ a, a < 2 → ∀ b, b < 2 → a ≠ b → (TX3 a).2.1 ≠ (TX3 b).2.1 := by decide +kernel
theorem tyX3_ok : ∀ k, k < 2 → parseFieldDescriptor (TX3 k).2.2.1 = some (tyX3 k) := by decide +kernel
def RX4 : String := "RainPurse$Settling"
def TX4 : u_T := fun k => match k with
  | 0 => ("RainPurse$Settling", "whole", "I", false)
  | 1 => ("RainPurse$Settling", "most", "I", false)
  | 2 => ("RainPurse$Settling", "first", "I", false)
  | 3 => ("RainPurse$Settling", "sums", "[I", true)
  | _ => ("RainPurse$Settling", "heaps", "[I", true)
def tyX4 : Nat → FieldType := fun k => match k with
  | 0 => .int
  | 1 => .int
  | 2 => .int
  | 3 => .array .int
  | _ => .array .int
abbrev wsX40 : List Cond := u_ws RX4 TX4 5
theorem nmX4 : ∀ a, a < 5 → ∀ b, b < 5 → a ≠ b → (TX4 a).2.1 ≠ (TX4 b).2.1 := by decide +kernel
theorem tyX4_ok : ∀ k, k < 5 → parseFieldDescriptor (TX4 k).2.2.1 = some (tyX4 k) := by decide +kernel
def RX5 : String := "RainPurse$Sheet"
def TX5 : u_T := fun k => match k with
  | 0 => ("RainPurse$Sheet", "bits", "I", false)
  | 1 => ("RainPurse$Sheet", "size", "I", false)
  | _ => ("RainPurse$Sheet", "numbers", "[I", true)
def tyX5 : Nat → FieldType := fun k => match k with
  | 0 => .int
  | 1 => .int
  | _ => .array .int
abbrev wsX50 : List Cond := u_ws RX5 TX5 3
theorem nmX5 : ∀ a, a < 3 → ∀ b, b < 3 → a ≠ b → (TX5 a).2.1 ≠ (TX5 b).2.1 := by decide +kernel
theorem tyX5_ok : ∀ k, k < 3 → parseFieldDescriptor (TX5 k).2.2.1 = some (tyX5 k) := by decide +kernel
def RX6 : String := "RainPurse$State"
def TX6 : u_T := fun k => match k with
  | 0 => ("RainPurse$State", "worth", "[I", true)
  | 1 => ("RainPurse$State", "rain", "[I", true)
  | 2 => ("RainPurse$State", "sum", "[I", true)
  | 3 => ("RainPurse$State", "pennies", "[I", true)
  | 4 => ("RainPurse$State", "pays", "[I", true)
  | 5 => ("RainPurse$State", "size", "I", false)
  | 6 => ("RainPurse$State", "laws", "LRainPurse$Row;", true)
  | 7 => ("RainPurse$State", "force", "I", false)
  | 8 => ("RainPurse$State", "off", "I", false)
  | 9 => ("RainPurse$State", "spread", "I", false)
  | 10 => ("RainPurse$State", "comes", "[I", true)
  | 11 => ("RainPurse$State", "skies", "[[I", true)
  | 12 => ("RainPurse$State", "day", "I", false)
  | 13 => ("RainPurse$State", "z", "I", false)
  | 14 => ("RainPurse$State", "tape", "LRainPurse$Row;", true)
  | 15 => ("RainPurse$State", "waiting", "LRainPurse$Row;", true)
  | 16 => ("RainPurse$State", "dues", "LRainPurse$Text;", true)
  | _ => ("RainPurse$State", "crop", "LRainPurse$Text;", true)
def tyX6 : Nat → FieldType := fun k => match k with
  | 0 => .array .int
  | 1 => .array .int
  | 2 => .array .int
  | 3 => .array .int
  | 4 => .array .int
  | 5 => .int
  | 6 => .object "RainPurse$Row"
  | 7 => .int
  | 8 => .int
  | 9 => .int
  | 10 => .array .int
  | 11 => .array (.array .int)
  | 12 => .int
  | 13 => .int
  | 14 => .object "RainPurse$Row"
  | 15 => .object "RainPurse$Row"
  | 16 => .object "RainPurse$Text"
  | _ => .object "RainPurse$Text"
abbrev wsX60 : List Cond := u_ws RX6 TX6 18
theorem nmX6 : ∀ a, a < 18 → ∀ b, b < 18 → a ≠ b → (TX6 a).2.1 ≠ (TX6 b).2.1 := by decide +kernel
theorem tyX6_ok : ∀ k, k < 18 → parseFieldDescriptor (TX6 k).2.2.1 = some (tyX6 k) := by decide +kernel
def RX7 : String := "RainPurse$Text"
def TX7 : u_T := fun k => match k with
  | 0 => ("RainPurse$Text", "steps", "[I", true)
  | 1 => ("RainPurse$Text", "stack", "[I", true)
  | _ => ("RainPurse$Text", "size", "I", false)
def tyX7 : Nat → FieldType := fun k => match k with
  | 0 => .array .int
  | 1 => .array .int
  | _ => .int
abbrev wsX70 : List Cond := u_ws RX7 TX7 3
theorem nmX7 : ∀ a, a < 3 → ∀ b, b < 3 → a ≠ b → (TX7 a).2.1 ≠ (TX7 b).2.1 := by decide +kernel
theorem tyX7_ok : ∀ k, k < 3 → parseFieldDescriptor (TX7 k).2.2.1 = some (tyX7 k) := by decide +kernel
def RX8 : String := "RainPurse$Voices"
def TX8 : u_T := fun k => match k with
  | 0 => ("RainPurse$Voices", "trace", "LRainPurse$Row;", true)
  | 1 => ("RainPurse$Voices", "parted", "Z", false)
  | 2 => ("RainPurse$Voices", "own", "I", false)
  | 3 => ("RainPurse$Voices", "k", "I", false)
  | _ => ("RainPurse$Voices", "m", "I", false)
def tyX8 : Nat → FieldType := fun k => match k with
  | 0 => .object "RainPurse$Row"
  | 1 => .boolean
  | 2 => .int
  | 3 => .int
  | _ => .int
abbrev wsX80 : List Cond := u_ws RX8 TX8 5
theorem nmX8 : ∀ a, a < 5 → ∀ b, b < 5 → a ≠ b → (TX8 a).2.1 ≠ (TX8 b).2.1 := by decide +kernel
theorem tyX8_ok : ∀ k, k < 5 → parseFieldDescriptor (TX8 k).2.2.1 = some (tyX8 k) := by decide +kernel
def RX9 : String := "RainPurse"
def TX9 : u_T := fun k => match k with
  | 0 => ("RainPurse", "now", "LRainPurse$State;", true)
  | 1 => ("RainPurse", "kept", "LRainPurse$State;", false)
  | 2 => ("RainPurse", "imagesMade", "I", false)
  | 3 => ("RainPurse", "errors", "[I", true)
  | 4 => ("RainPurse", "sheets", "[LRainPurse$Sheet;", true)
  | 5 => ("RainPurse", "voices", "LRainPurse$Voices;", true)
  | 6 => ("RainPurse", "reader", "LRainPurse$Reader;", true)
  | 7 => ("RainPurse", "settling", "LRainPurse$Settling;", true)
  | 8 => ("RainPurse", "gauges", "LRainPurse$Gauges;", true)
  | 9 => ("RainPurse", "row", "[I", true)
  | 10 => ("RainPurse", "paid", "[J", true)
  | _ => ("RainPurse", "forecast", "LRainPurse$Forecast;", false)
def tyX9 : Nat → FieldType := fun k => match k with
  | 0 => .object "RainPurse$State"
  | 1 => .object "RainPurse$State"
  | 2 => .int
  | 3 => .array .int
  | 4 => .array (.object "RainPurse$Sheet")
  | 5 => .object "RainPurse$Voices"
  | 6 => .object "RainPurse$Reader"
  | 7 => .object "RainPurse$Settling"
  | 8 => .object "RainPurse$Gauges"
  | 9 => .array .int
  | 10 => .array .long
  | _ => .object "RainPurse$Forecast"
abbrev wsX90 : List Cond := u_ws RX9 TX9 12
theorem nmX9 : ∀ a, a < 12 → ∀ b, b < 12 → a ≠ b → (TX9 a).2.1 ≠ (TX9 b).2.1 := by decide +kernel
theorem tyX9_ok : ∀ k, k < 12 → parseFieldDescriptor (TX9 k).2.2.1 = some (tyX9 k) := by decide +kernel
def RX10 : String := "RainPurseModel"
def TX10 : u_T := fun k => match k with
  | 0 => ("RainPurseModel", "s", "[I", true)
  | 1 => ("RainPurseModel", "kept", "[I", true)
  | 2 => ("RainPurseModel", "put", "[I", true)
  | 3 => ("RainPurseModel", "images", "I", false)
  | 4 => ("RainPurseModel", "errors", "[I", true)
  | 5 => ("RainPurseModel", "at", "I", false)
  | 6 => ("RainPurseModel", "open", "I", false)
  | 7 => ("RainPurseModel", "steps", "I", false)
  | 8 => ("RainPurseModel", "use", "I", false)
  | 9 => ("RainPurseModel", "step", "[I", true)
  | 10 => ("RainPurseModel", "named", "[I", true)
  | 11 => ("RainPurseModel", "pile", "[I", true)
  | 12 => ("RainPurseModel", "pay", "[I", true)
  | 13 => ("RainPurseModel", "heap", "[I", true)
  | 14 => ("RainPurseModel", "means", "[I", true)
  | 15 => ("RainPurseModel", "weight", "[I", true)
  | 16 => ("RainPurseModel", "need", "[I", true)
  | 17 => ("RainPurseModel", "ends", "[I", true)
  | 18 => ("RainPurseModel", "rows", "I", false)
  | 19 => ("RainPurseModel", "trace", "[I", true)
  | 20 => ("RainPurseModel", "traced", "I", false)
  | 21 => ("RainPurseModel", "speaks", "I", false)
  | 22 => ("RainPurseModel", "isParted", "Z", false)
  | 23 => ("RainPurseModel", "bits", "[I", true)
  | 24 => ("RainPurseModel", "sizes", "[I", true)
  | 25 => ("RainPurseModel", "number", "[I", true)
  | 26 => ("RainPurseModel", "aside", "[I", true)
  | _ => ("RainPurseModel", "still", "[J", true)
def tyX10 : Nat → FieldType := fun k => match k with
  | 0 => .array .int
  | 1 => .array .int
  | 2 => .array .int
  | 3 => .int
  | 4 => .array .int
  | 5 => .int
  | 6 => .int
  | 7 => .int
  | 8 => .int
  | 9 => .array .int
  | 10 => .array .int
  | 11 => .array .int
  | 12 => .array .int
  | 13 => .array .int
  | 14 => .array .int
  | 15 => .array .int
  | 16 => .array .int
  | 17 => .array .int
  | 18 => .int
  | 19 => .array .int
  | 20 => .int
  | 21 => .int
  | 22 => .boolean
  | 23 => .array .int
  | 24 => .array .int
  | 25 => .array .int
  | 26 => .array .int
  | _ => .array .long
abbrev wsX100 : List Cond := u_ws RX10 TX10 28
theorem nmX10 : ∀ a, a < 28 → ∀ b, b < 28 → a ≠ b → (TX10 a).2.1 ≠ (TX10 b).2.1 := by decide +kernel
theorem tyX10_ok : ∀ k, k < 28 → parseFieldDescriptor (TX10 k).2.2.1 = some (tyX10 k) := by decide +kernel
abbrev vwCl : List vw_C := [(RX0, TX0, 13), (RX1, TX1, 5), (RX2, TX2, 4), (RX3, TX3, 2), (RX4, TX4, 5), (RX5, TX5, 3), (RX6, TX6, 18), (RX7, TX7, 3), (RX8, TX8, 5), (RX9, TX9, 12), (RX10, TX10, 28)]
def rr_cn : Nat → String := fun o => match o with
  | 0 => "RainPurse$Forecast"
  | 1 => "RainPurse$Gauges"
  | 2 => "RainPurse$Reader"
  | 3 => "RainPurse$Row"
  | 4 => "RainPurse$Settling"
  | 5 => "RainPurse$Sheet"
  | 6 => "RainPurse$State"
  | 7 => "RainPurse$Text"
  | 8 => "RainPurse$Voices"
  | 9 => "RainPurse"
  | 10 => "RainPurseModel"
  | 11 => "RainPurseLaw"
  | _ => "java/lang/Integer"
/-- the methods: name, bytes, locals, answer, own class, arguments (the object counted), static -/
abbrev rr_M : Type := MethodName × ByteArray × Nat × Option FieldType × Nat × Nat × Bool
def rr_ms0 : List rr_M := [
  (⟨"RainPurse", "<init>", "()V"⟩, prog_1_method_1_code, 2, none, 9, 1, false),
  (⟨"RainPurse$State", "<init>", "()V"⟩, prog_8_method_1_code, 1, none, 6, 1, false),
  (⟨"RainPurse$Row", "<init>", "(I)V"⟩, prog_5_method_1_code, 2, none, 3, 2, false),
  (⟨"RainPurse$Text", "<init>", "()V"⟩, prog_9_method_1_code, 1, none, 7, 1, false),
  (⟨"RainPurse$Voices", "<init>", "()V"⟩, prog_10_method_1_code, 1, none, 8, 1, false),
  (⟨"RainPurse$Reader", "<init>", "()V"⟩, prog_4_method_1_code, 1, none, 2, 1, false),
  (⟨"RainPurse$Settling", "<init>", "()V"⟩, prog_6_method_1_code, 1, none, 4, 1, false),
  (⟨"RainPurse$Gauges", "<init>", "()V"⟩, prog_3_method_1_code, 1, none, 1, 1, false),
  (⟨"RainPurse$Sheet", "<init>", "()V"⟩, prog_7_method_1_code, 1, none, 5, 1, false),
  (⟨"RainPurse", "field", "(I)I"⟩, prog_1_method_2_code, 2, some .int, 9, 2, false),
  (⟨"RainPurse", "within", "(III)Z"⟩, prog_1_method_49_code, 3, some .boolean, 9, 3, true),
  (⟨"RainPurse", "error", "(I)I"⟩, prog_1_method_42_code, 2, some .int, 9, 2, false),
  (⟨"RainPurse", "noteError", "(I)V"⟩, prog_1_method_44_code, 2, none, 9, 2, false),
  (⟨"RainPurse$State", "newField", "(I)I"⟩, prog_8_method_4_code, 3, some .int, 6, 2, false),
  (⟨"RainPurse", "fieldIs", "(II)I"⟩, prog_1_method_3_code, 3, some .int, 9, 3, false),
  (⟨"RainPurse$State", "hasField", "(I)Z"⟩, prog_8_method_3_code, 2, some .boolean, 6, 2, false)]
def rr_ms1 : List rr_M := [
  (⟨"RainPurse$State", "owesToday", "(II)I"⟩, prog_8_method_9_code, 3, some .int, 6, 3, false),
  (⟨"RainPurse$State", "owes", "(IIII)I"⟩, prog_8_method_7_code, 9, some .int, 6, 5, false),
  (⟨"RainPurse$Row", "has", "(I)Z"⟩, prog_5_method_3_code, 2, some .boolean, 3, 2, false),
  (⟨"RainPurse$Row", "at", "(I)I"⟩, prog_5_method_4_code, 2, some .int, 3, 2, false),
  (⟨"RainPurse$Text", "isTold", "()Z"⟩, prog_9_method_2_code, 1, some .boolean, 7, 1, false),
  (⟨"RainPurse$Text", "workOut", "(IIII)I"⟩, prog_9_method_8_code, 10, some .int, 7, 5, false),
  (⟨"RainPurse$Text", "joined", "(III)I"⟩, prog_9_method_9_code, 3, some .int, 7, 3, true),
  (⟨"RainPurse", "held", "(II)I"⟩, prog_1_method_50_code, 2, some .int, 9, 2, true),
  (⟨"RainPurse$State", "paysToday", "([I)V"⟩, prog_8_method_12_code, 2, none, 6, 2, false),
  (⟨"RainPurse$State", "paysBy", "(I[I[I[I)V"⟩, prog_8_method_11_code, 7, none, 6, 5, false),
  (⟨"RainPurse$State", "cropOf", "(I)I"⟩, prog_8_method_6_code, 2, some .int, 6, 2, false),
  (⟨"RainPurse", "set", "(III)I"⟩, prog_1_method_4_code, 8, some .int, 9, 4, false),
  (⟨"RainPurse", "law", "(I)I"⟩, prog_1_method_5_code, 2, some .int, 9, 2, false),
  (⟨"RainPurse$Row", "add", "(I)Z"⟩, prog_5_method_5_code, 2, some .boolean, 3, 2, false),
  (⟨"RainPurse$Row", "size", "()I"⟩, prog_5_method_2_code, 1, some .int, 3, 1, false),
  (⟨"RainPurse", "lawIs", "(II)I"⟩, prog_1_method_6_code, 3, some .int, 9, 3, false)]
def rr_ms2 : List rr_M := [
  (⟨"RainPurse$State", "allOwe", "(I)I"⟩, prog_8_method_10_code, 4, some .int, 6, 2, false),
  (⟨"RainPurse", "as", "(II)I"⟩, prog_1_method_7_code, 4, some .int, 9, 3, false),
  (⟨"RainPurse", "isUnder", "(II)Z"⟩, prog_1_method_51_code, 4, some .boolean, 9, 2, true),
  (⟨"RainPurse", "become", "(II)I"⟩, prog_1_method_8_code, 4, some .int, 9, 3, false),
  (⟨"RainPurse$Row", "change", "(II)V"⟩, prog_5_method_6_code, 3, none, 3, 3, false),
  (⟨"RainPurse", "force", "(I)I"⟩, prog_1_method_9_code, 3, some .int, 9, 2, false),
  (⟨"RainPurse", "feed", "(JI)I"⟩, prog_1_method_10_code, 5, some .int, 9, 3, false),
  (⟨"RainPurse", "text", "(I)I"⟩, prog_1_method_11_code, 3, some .int, 9, 2, false),
  (⟨"RainPurse$Reader", "faultOf", "(LRainPurse$Row;I)I"⟩, prog_4_method_2_code, 4, some .int, 2, 3, false),
  (⟨"RainPurse$Row", "copyFrom", "(LRainPurse$Row;)V"⟩, prog_5_method_8_code, 2, none, 3, 2, false),
  (⟨"RainPurse$Text", "clear", "()V"⟩, prog_9_method_3_code, 1, none, 7, 1, false),
  (⟨"RainPurse$Reader", "readLevel", "(II)Z"⟩, prog_4_method_3_code, 6, some .boolean, 2, 3, false),
  (⟨"RainPurse$Reader", "readLeaf", "(I)Z"⟩, prog_4_method_4_code, 3, some .boolean, 2, 2, false),
  (⟨"RainPurse$Reader", "next", "()I"⟩, prog_4_method_8_code, 1, some .int, 2, 1, false),
  (⟨"RainPurse$Reader", "isDigit", "(I)Z"⟩, prog_4_method_10_code, 1, some .boolean, 2, 1, true),
  (⟨"RainPurse$Reader", "readNumber", "()V"⟩, prog_4_method_7_code, 3, none, 2, 1, false)]
def rr_ms3 : List rr_M := [
  (⟨"RainPurse$Text", "addNumber", "(I)V"⟩, prog_9_method_5_code, 2, none, 7, 2, false),
  (⟨"RainPurse$Reader", "isName", "(I)Z"⟩, prog_4_method_9_code, 3, some .boolean, 2, 2, false),
  (⟨"RainPurse$Text", "addSign", "(I)V"⟩, prog_9_method_6_code, 2, none, 7, 2, false),
  (⟨"RainPurse$Reader", "readDenied", "(I)Z"⟩, prog_4_method_5_code, 2, some .boolean, 2, 2, false),
  (⟨"RainPurse$Reader", "readClosed", "(I)Z"⟩, prog_4_method_6_code, 2, some .boolean, 2, 2, false),
  (⟨"RainPurse$Reader", "levelOf", "(I)I"⟩, prog_4_method_11_code, 1, some .int, 2, 1, true),
  (⟨"RainPurse$Row", "clear", "()V"⟩, prog_5_method_7_code, 1, none, 3, 1, false),
  (⟨"RainPurse$State", "textOf", "(I)LRainPurse$Text;"⟩, prog_8_method_5_code, 2, some (.object "RainPurse$Text"), 6, 2, false),
  (⟨"RainPurse$Text", "copyFrom", "(LRainPurse$Text;)V"⟩, prog_9_method_4_code, 2, none, 7, 2, false),
  (⟨"RainPurse", "untell", "(I)I"⟩, prog_1_method_12_code, 4, some .int, 9, 2, false),
  (⟨"RainPurse", "evening", "()I"⟩, prog_1_method_13_code, 1, some .int, 9, 1, false),
  (⟨"RainPurse$State", "endDay", "()I"⟩, prog_8_method_13_code, 4, some .int, 6, 1, false),
  (⟨"RainPurse", "settle", "(I)I"⟩, prog_1_method_14_code, 2, some .int, 9, 2, false),
  (⟨"RainPurse$Settling", "workOut", "([II)V"⟩, prog_6_method_2_code, 4, none, 4, 3, false),
  (⟨"RainPurse$Settling", "weigh", "(I[I)V"⟩, prog_6_method_3_code, 7, none, 4, 3, false),
  (⟨"java/lang/Integer", "bitCount", "(I)I"⟩, prog_13_method_49_code, 1, some .int, 12, 1, true)]
def rr_ms4 : List rr_M := [
  (⟨"RainPurse", "night", "(II)I"⟩, prog_1_method_15_code, 5, some .int, 9, 3, false),
  (⟨"RainPurse", "two", "()I"⟩, prog_1_method_16_code, 1, some .int, 9, 1, false),
  (⟨"RainPurse$State", "nearestTwo", "([I)I"⟩, prog_8_method_20_code, 7, some .int, 6, 2, false),
  (⟨"RainPurse", "gauge", "(II)I"⟩, prog_1_method_17_code, 4, some .int, 9, 3, false),
  (⟨"RainPurse", "wrong", "(I)I"⟩, prog_1_method_18_code, 2, some .int, 9, 2, false),
  (⟨"RainPurse$Gauges", "workOut", "(LRainPurse$State;)V"⟩, prog_3_method_2_code, 6, none, 1, 2, false),
  (⟨"RainPurse$Gauges", "agreeingWith", "(LRainPurse$State;II)I"⟩, prog_3_method_4_code, 6, some .int, 1, 3, true),
  (⟨"RainPurse$Gauges", "isRight", "(II)Z"⟩, prog_3_method_5_code, 5, some .boolean, 1, 3, false),
  (⟨"RainPurse$Gauges", "take", "(II)V"⟩, prog_3_method_3_code, 3, none, 1, 3, false),
  (⟨"RainPurse", "weather", "(II)I"⟩, prog_1_method_19_code, 4, some .int, 9, 3, false),
  (⟨"RainPurse$State", "allChances", "()I"⟩, prog_8_method_15_code, 3, some .int, 6, 1, false),
  (⟨"RainPurse", "rain", "(III)I"⟩, prog_1_method_20_code, 5, some .int, 9, 4, false),
  (⟨"RainPurse", "days", "(I)I"⟩, prog_1_method_21_code, 3, some .int, 9, 2, false),
  (⟨"RainPurse$State", "isWhole", "()Z"⟩, prog_8_method_16_code, 1, some .boolean, 6, 1, false),
  (⟨"RainPurse$State", "drawnWeather", "()I"⟩, prog_8_method_17_code, 4, some .int, 6, 1, false),
  (⟨"RainPurse$State", "dayUnder", "(I)V"⟩, prog_8_method_14_code, 2, none, 6, 2, false)]
def rr_ms5 : List rr_M := [
  (⟨"RainPurse", "seed", "(I)I"⟩, prog_1_method_22_code, 3, some .int, 9, 2, false),
  (⟨"RainPurse", "mean", "(II)I"⟩, prog_1_method_23_code, 3, some .int, 9, 3, false),
  (⟨"RainPurse$State", "meansBy", "(I[I)V"⟩, prog_8_method_18_code, 5, none, 6, 3, false),
  (⟨"RainPurse", "inLowestTerms", "(JJI)J"⟩, prog_1_method_52_code, 7, some .long, 9, 3, true),
  (⟨"RainPurse", "commonDivisor", "(JJ)J"⟩, prog_1_method_53_code, 11, some .long, 9, 2, true),
  (⟨"RainPurse", "evenest", "()I"⟩, prog_1_method_24_code, 1, some .int, 9, 1, false),
  (⟨"RainPurse$State", "evenestLaw", "([I)I"⟩, prog_8_method_19_code, 9, some .int, 6, 2, false),
  (⟨"RainPurse", "fails", "(IIII)J"⟩, prog_1_method_25_code, 6, some .long, 9, 5, false),
  (⟨"RainPurse", "longError", "(I)J"⟩, prog_1_method_43_code, 2, some .long, 9, 2, false),
  (⟨"RainPurse", "madeForecast", "()LRainPurse$Forecast;"⟩, prog_1_method_48_code, 1, some (.object "RainPurse$Forecast"), 9, 1, false),
  (⟨"RainPurse$Forecast", "<init>", "()V"⟩, prog_2_method_1_code, 1, none, 0, 1, false),
  (⟨"RainPurse$Forecast", "look", "(LRainPurse$State;II)V"⟩, prog_2_method_2_code, 4, none, 0, 4, false),
  (⟨"RainPurse$State", "looksAtSums", "()Z"⟩, prog_8_method_8_code, 2, some .boolean, 6, 1, false),
  (⟨"RainPurse$Text", "names", "(I)Z"⟩, prog_9_method_7_code, 4, some .boolean, 7, 2, false),
  (⟨"RainPurse$Forecast", "begin", "(IIZ)V"⟩, prog_2_method_7_code, 4, none, 0, 4, false),
  (⟨"RainPurse$Forecast", "follow", "(LRainPurse$State;IIIII)V"⟩, prog_2_method_8_code, 12, none, 0, 7, false)]
def rr_ms6 : List rr_M := [
  (⟨"RainPurse$Forecast", "endRow", "(III)V"⟩, prog_2_method_9_code, 4, none, 0, 4, false),
  (⟨"RainPurse$Forecast", "workOut", "(LRainPurse$State;III)V"⟩, prog_2_method_10_code, 12, none, 0, 5, false),
  (⟨"RainPurse$Forecast", "failing", "(I)J"⟩, prog_2_method_5_code, 5, some .long, 0, 2, false),
  (⟨"RainPurse$Forecast", "allWeight", "()J"⟩, prog_2_method_4_code, 1, some .long, 0, 1, false),
  (⟨"RainPurse", "stands", "(III)I"⟩, prog_1_method_26_code, 6, some .int, 9, 4, false),
  (⟨"RainPurse$Forecast", "leastPurse", "(I)I"⟩, prog_2_method_6_code, 6, some .int, 0, 2, false),
  (⟨"RainPurse", "book", "(III)I"⟩, prog_1_method_27_code, 4, some .int, 9, 4, false),
  (⟨"RainPurse$Forecast", "rowsTo", "(LRainPurse$State;III)I"⟩, prog_2_method_3_code, 5, some .int, 0, 5, false),
  (⟨"RainPurse", "voice", "(III)I"⟩, prog_1_method_28_code, 5, some .int, 9, 4, false),
  (⟨"RainPurse$Voices", "ask", "(IIII)I"⟩, prog_10_method_2_code, 5, some .int, 8, 5, false),
  (⟨"RainPurse$Voices", "speak", "(IIII)I"⟩, prog_10_method_3_code, 9, some .int, 8, 5, false),
  (⟨"RainPurse$Voices", "ownerOf", "(II)I"⟩, prog_10_method_5_code, 4, some .int, 8, 2, true),
  (⟨"RainPurse$Voices", "partsOf", "(I)I"⟩, prog_10_method_4_code, 3, some .int, 8, 2, false),
  (⟨"RainPurse", "body", "(I)I"⟩, prog_1_method_29_code, 2, some .int, 9, 2, false),
  (⟨"RainPurse", "sheet", "(III)I"⟩, prog_1_method_30_code, 5, some .int, 9, 4, false),
  (⟨"RainPurse$Sheet", "renew", "(II)V"⟩, prog_7_method_2_code, 4, none, 5, 3, false)]
def rr_ms7 : List rr_M := [
  (⟨"RainPurse", "put", "(III)I"⟩, prog_1_method_31_code, 5, some .int, 9, 4, false),
  (⟨"RainPurse", "errorOfSheet", "(I)I"⟩, prog_1_method_45_code, 2, some .int, 9, 2, false),
  (⟨"RainPurse$Sheet", "change", "(II)V"⟩, prog_7_method_4_code, 3, none, 5, 3, false),
  (⟨"RainPurse", "move", "(IIIII)I"⟩, prog_1_method_32_code, 8, some .int, 9, 6, false),
  (⟨"RainPurse$Sheet", "holds", "(II)Z"⟩, prog_7_method_5_code, 3, some .boolean, 5, 3, false),
  (⟨"RainPurse", "rains", "(I)I"⟩, prog_1_method_33_code, 5, some .int, 9, 2, false),
  (⟨"RainPurse$Sheet", "at", "(I)I"⟩, prog_7_method_3_code, 2, some .int, 5, 2, false),
  (⟨"RainPurse", "judge", "(I)I"⟩, prog_1_method_34_code, 6, some .int, 9, 2, false),
  (⟨"RainPurse", "takePayment", "(LRainPurse$Sheet;I)Z"⟩, prog_1_method_46_code, 6, some .boolean, 9, 3, false),
  (⟨"RainPurse", "isSettled", "()Z"⟩, prog_1_method_47_code, 3, some .boolean, 9, 1, false),
  (⟨"RainPurse", "play", "(I)I"⟩, prog_1_method_35_code, 5, some .int, 9, 2, false),
  (⟨"RainPurse", "image", "()I"⟩, prog_1_method_36_code, 1, some .int, 9, 1, false),
  (⟨"RainPurse$State", "copyFrom", "(LRainPurse$State;)V"⟩, prog_8_method_2_code, 3, none, 6, 2, false),
  (⟨"RainPurse", "restore", "()I"⟩, prog_1_method_37_code, 1, some .int, 9, 1, false),
  (⟨"RainPurse", "tell", "(I)I"⟩, prog_1_method_38_code, 2, some .int, 9, 2, false),
  (⟨"RainPurse", "check", "()I"⟩, prog_1_method_39_code, 5, some .int, 9, 1, false)]
def rr_ms8 : List rr_M := [
  (⟨"RainPurse", "count", "(I)I"⟩, prog_1_method_40_code, 2, some .int, 9, 2, false),
  (⟨"RainPurse", "told", "(I)I"⟩, prog_1_method_41_code, 2, some .int, 9, 2, false),
  (⟨"RainPurseModel", "<init>", "()V"⟩, prog_12_method_1_code, 1, none, 10, 1, false),
  (⟨"RainPurseModel", "feed", "(JI)I"⟩, prog_12_method_13_code, 5, some .int, 10, 3, false),
  (⟨"RainPurseModel", "in", "(III)Z"⟩, prog_12_method_3_code, 3, some .boolean, 10, 3, true),
  (⟨"RainPurseModel", "error", "(I)I"⟩, prog_12_method_2_code, 2, some .int, 10, 2, false),
  (⟨"RainPurseModel", "text", "(I)I"⟩, prog_12_method_25_code, 5, some .int, 10, 2, false),
  (⟨"RainPurseModel", "whole", "()Z"⟩, prog_12_method_17_code, 1, some .boolean, 10, 1, false),
  (⟨"RainPurseModel", "both", "()Z"⟩, prog_12_method_18_code, 1, some .boolean, 10, 1, false),
  (⟨"RainPurseModel", "compared", "()Z"⟩, prog_12_method_19_code, 2, some .boolean, 10, 1, false),
  (⟨"RainPurseModel", "sum", "()Z"⟩, prog_12_method_20_code, 2, some .boolean, 10, 1, false),
  (⟨"RainPurseModel", "product", "()Z"⟩, prog_12_method_21_code, 2, some .boolean, 10, 1, false),
  (⟨"RainPurseModel", "one", "()Z"⟩, prog_12_method_23_code, 4, some .boolean, 10, 1, false),
  (⟨"RainPurseModel", "look", "()I"⟩, prog_12_method_14_code, 1, some .int, 10, 1, false),
  (⟨"RainPurseModel", "isName", "(I)Z"⟩, prog_12_method_15_code, 2, some .boolean, 10, 2, false),
  (⟨"RainPurseModel", "lays", "(II)V"⟩, prog_12_method_16_code, 3, none, 10, 3, false)]
def rr_ms9 : List rr_M := [
  (⟨"RainPurseModel", "opens", "()Z"⟩, prog_12_method_22_code, 1, some .boolean, 10, 1, false),
  (⟨"RainPurseModel", "untell", "(I)I"⟩, prog_12_method_26_code, 3, some .int, 10, 2, false),
  (⟨"RainPurseModel", "hasText", "(I)Z"⟩, prog_12_method_24_code, 2, some .boolean, 10, 2, false),
  (⟨"RainPurseModel", "field", "(I)I"⟩, prog_12_method_34_code, 3, some .int, 10, 2, false),
  (⟨"RainPurseModel", "lays1", "(III)V"⟩, prog_12_method_10_code, 4, none, 10, 4, false),
  (⟨"RainPurseModel", "fieldIs", "(II)I"⟩, prog_12_method_35_code, 3, some .int, 10, 3, false),
  (⟨"RainPurseModel", "isField", "(I)Z"⟩, prog_12_method_6_code, 2, some .boolean, 10, 2, false),
  (⟨"RainPurseModel", "findPays", "(I)V"⟩, prog_12_method_32_code, 4, none, 10, 2, false),
  (⟨"RainPurseModel", "allOwe", "(I)I"⟩, prog_12_method_31_code, 4, some .int, 10, 2, false),
  (⟨"RainPurseModel", "owesBy", "(II)I"⟩, prog_12_method_30_code, 7, some .int, 10, 3, false),
  (⟨"RainPurseModel", "its", "(II)I"⟩, prog_12_method_9_code, 3, some .int, 10, 3, false),
  (⟨"RainPurseModel", "mOf", "(I)I"⟩, prog_12_method_12_code, 2, some .int, 10, 2, false),
  (⟨"RainPurseModel", "kindOf", "(I)I"⟩, prog_12_method_11_code, 2, some .int, 10, 2, false),
  (⟨"RainPurseModel", "dues", "(II)I"⟩, prog_12_method_29_code, 3, some .int, 10, 3, false),
  (⟨"RainPurseModel", "held", "(III)I"⟩, prog_12_method_4_code, 3, some .int, 10, 3, true),
  (⟨"RainPurseModel", "worked", "(I)I"⟩, prog_12_method_28_code, 7, some .int, 10, 2, false)]
def rr_ms10 : List rr_M := [
  (⟨"RainPurseModel", "joined", "(III)I"⟩, prog_12_method_27_code, 3, some .int, 10, 3, true),
  (⟨"RainPurseModel", "crop", "(I)I"⟩, prog_12_method_33_code, 3, some .int, 10, 2, false),
  (⟨"RainPurseModel", "set", "(III)I"⟩, prog_12_method_36_code, 5, some .int, 10, 4, false),
  (⟨"RainPurseModel", "law", "(I)I"⟩, prog_12_method_37_code, 2, some .int, 10, 2, false),
  (⟨"RainPurseModel", "lawIs", "(II)I"⟩, prog_12_method_38_code, 3, some .int, 10, 3, false),
  (⟨"RainPurseModel", "isLaw", "(I)Z"⟩, prog_12_method_7_code, 2, some .boolean, 10, 2, false),
  (⟨"RainPurseModel", "as", "(II)I"⟩, prog_12_method_40_code, 3, some .int, 10, 3, false),
  (⟨"RainPurseModel", "isUnder", "(II)Z"⟩, prog_12_method_39_code, 2, some .boolean, 10, 2, true),
  (⟨"RainPurseModel", "become", "(II)I"⟩, prog_12_method_41_code, 4, some .int, 10, 3, false),
  (⟨"RainPurseModel", "force", "(I)I"⟩, prog_12_method_42_code, 3, some .int, 10, 2, false),
  (⟨"RainPurseModel", "evening", "()I"⟩, prog_12_method_44_code, 1, some .int, 10, 1, false),
  (⟨"RainPurseModel", "evens", "()I"⟩, prog_12_method_43_code, 3, some .int, 10, 1, false),
  (⟨"RainPurseModel", "settle", "(I)I"⟩, prog_12_method_49_code, 4, some .int, 10, 2, false),
  (⟨"RainPurseModel", "payers", "()I"⟩, prog_12_method_46_code, 3, some .int, 10, 1, false),
  (⟨"RainPurseModel", "findHeaps", "()V"⟩, prog_12_method_48_code, 4, none, 10, 1, false),
  (⟨"RainPurseModel", "sumOf", "(I)I"⟩, prog_12_method_45_code, 4, some .int, 10, 2, false)]
def rr_ms11 : List rr_M := [
  (⟨"RainPurseModel", "bitsOf", "(I)I"⟩, prog_12_method_47_code, 3, some .int, 10, 1, true),
  (⟨"RainPurseModel", "night", "(II)I"⟩, prog_12_method_50_code, 5, some .int, 10, 3, false),
  (⟨"RainPurseModel", "two", "()I"⟩, prog_12_method_51_code, 6, some .int, 10, 1, false),
  (⟨"RainPurseModel", "gauge", "(II)I"⟩, prog_12_method_52_code, 4, some .int, 10, 3, false),
  (⟨"RainPurseModel", "wrong", "(I)I"⟩, prog_12_method_54_code, 10, some .int, 10, 2, false),
  (⟨"RainPurseModel", "isRight", "(I)Z"⟩, prog_12_method_53_code, 8, some .boolean, 10, 2, false),
  (⟨"RainPurseModel", "weather", "(II)I"⟩, prog_12_method_57_code, 4, some .int, 10, 3, false),
  (⟨"RainPurseModel", "isWeather", "(I)Z"⟩, prog_12_method_8_code, 1, some .boolean, 10, 1, true),
  (⟨"RainPurseModel", "allChances", "()I"⟩, prog_12_method_55_code, 1, some .int, 10, 1, false),
  (⟨"RainPurseModel", "rain", "(III)I"⟩, prog_12_method_58_code, 5, some .int, 10, 4, false),
  (⟨"RainPurseModel", "days", "(I)I"⟩, prog_12_method_61_code, 6, some .int, 10, 2, false),
  (⟨"RainPurseModel", "isWhole", "()Z"⟩, prog_12_method_56_code, 1, some .boolean, 10, 1, false),
  (⟨"RainPurseModel", "draw", "()I"⟩, prog_12_method_60_code, 1, some .int, 10, 1, false),
  (⟨"RainPurseModel", "rainsBy", "(I)V"⟩, prog_12_method_59_code, 3, none, 10, 2, false),
  (⟨"RainPurseModel", "seed", "(I)I"⟩, prog_12_method_62_code, 3, some .int, 10, 2, false),
  (⟨"RainPurseModel", "mean", "(II)I"⟩, prog_12_method_65_code, 4, some .int, 10, 3, false)]
def rr_ms12 : List rr_M := [
  (⟨"RainPurseModel", "findMeans", "(I)V"⟩, prog_12_method_64_code, 4, none, 10, 2, false),
  (⟨"RainPurseModel", "carry", "([I[I)V"⟩, prog_12_method_5_code, 3, none, 10, 2, true),
  (⟨"RainPurseModel", "divisor", "(JJ)J"⟩, prog_12_method_63_code, 10, some .long, 10, 2, true),
  (⟨"RainPurseModel", "evenest", "()I"⟩, prog_12_method_66_code, 8, some .int, 10, 1, false),
  (⟨"RainPurseModel", "fails", "(IIII)J"⟩, prog_12_method_71_code, 9, some .long, 10, 5, false),
  (⟨"RainPurseModel", "findRows", "(II)V"⟩, prog_12_method_68_code, 4, none, 10, 3, false),
  (⟨"RainPurseModel", "findRow", "(III)V"⟩, prog_12_method_67_code, 9, none, 10, 4, false),
  (⟨"RainPurseModel", "failing", "(I)J"⟩, prog_12_method_69_code, 5, some .long, 10, 2, false),
  (⟨"RainPurseModel", "allOf", "(I)J"⟩, prog_12_method_70_code, 4, some .long, 10, 1, true),
  (⟨"RainPurseModel", "stands", "(III)I"⟩, prog_12_method_72_code, 7, some .int, 10, 4, false),
  (⟨"RainPurseModel", "book", "(III)I"⟩, prog_12_method_73_code, 6, some .int, 10, 4, false),
  (⟨"RainPurseModel", "voice", "(III)I"⟩, prog_12_method_82_code, 6, some .int, 10, 4, false),
  (⟨"RainPurseModel", "kindNow", "()I"⟩, prog_12_method_76_code, 1, some .int, 10, 1, false),
  (⟨"RainPurseModel", "rainsAs", "(II)I"⟩, prog_12_method_78_code, 3, some .int, 10, 3, false),
  (⟨"RainPurseModel", "begins", "(I)V"⟩, prog_12_method_74_code, 2, none, 10, 2, false),
  (⟨"RainPurseModel", "above", "(I)I"⟩, prog_12_method_75_code, 1, some .int, 10, 1, true)]
def rr_ms13 : List rr_M := [
  (⟨"RainPurseModel", "owesAs", "(II)I"⟩, prog_12_method_79_code, 3, some .int, 10, 3, false),
  (⟨"RainPurseModel", "mNow", "()I"⟩, prog_12_method_77_code, 1, some .int, 10, 1, false),
  (⟨"RainPurseModel", "paysAs", "(II)I"⟩, prog_12_method_80_code, 3, some .int, 10, 3, false),
  (⟨"RainPurseModel", "partsAs", "(II)I"⟩, prog_12_method_81_code, 5, some .int, 10, 3, false),
  (⟨"RainPurseModel", "body", "(I)I"⟩, prog_12_method_83_code, 2, some .int, 10, 2, false),
  (⟨"RainPurseModel", "sheet", "(III)I"⟩, prog_12_method_85_code, 5, some .int, 10, 4, false),
  (⟨"RainPurseModel", "isSheet", "(I)Z"⟩, prog_12_method_84_code, 1, some .boolean, 10, 1, true),
  (⟨"RainPurseModel", "put", "(III)I"⟩, prog_12_method_86_code, 5, some .int, 10, 4, false),
  (⟨"RainPurseModel", "move", "(IIIII)I"⟩, prog_12_method_87_code, 7, some .int, 10, 6, false),
  (⟨"RainPurseModel", "rains", "(I)I"⟩, prog_12_method_89_code, 4, some .int, 10, 2, false),
  (⟨"RainPurseModel", "lacks", "(I)I"⟩, prog_12_method_88_code, 2, some .int, 10, 2, false),
  (⟨"RainPurseModel", "judge", "(I)I"⟩, prog_12_method_90_code, 7, some .int, 10, 2, false),
  (⟨"RainPurseModel", "play", "(I)I"⟩, prog_12_method_91_code, 5, some .int, 10, 2, false),
  (⟨"RainPurseModel", "image", "()I"⟩, prog_12_method_92_code, 1, some .int, 10, 1, false),
  (⟨"RainPurseModel", "restore", "()I"⟩, prog_12_method_93_code, 1, some .int, 10, 1, false),
  (⟨"RainPurseModel", "tell", "(I)I"⟩, prog_12_method_94_code, 2, some .int, 10, 2, false)]
def rr_ms14 : List rr_M := [
  (⟨"RainPurseModel", "check", "()I"⟩, prog_12_method_95_code, 3, some .int, 10, 1, false),
  (⟨"RainPurseModel", "count", "(I)I"⟩, prog_12_method_96_code, 2, some .int, 10, 2, false),
  (⟨"RainPurseModel", "told", "(I)I"⟩, prog_12_method_97_code, 2, some .int, 10, 2, false)]
/-- for each method: place of its code word, of instanceMethod or static, of selects (virtual), of initialized -/
def rr_pl0 : List (Nat × Nat × Nat × Nat) := [(87, 86, 0, 69), (95, 94, 0, 70), (101, 100, 0, 71), (120, 119, 0, 73), (219, 218, 0, 74), (245, 244, 0, 75), (269, 268, 0, 76), (294, 293, 0, 77), (319, 318, 0, 78), (375, 373, 374, 69), (378, 377, 0, 69), (382, 381, 0, 69), (386, 385, 1, 69), (391, 389, 390, 70), (395, 393, 394, 69), (399, 397, 398, 70)]
def rr_pl1 : List (Nat × Nat × Nat × Nat) := [(403, 401, 402, 70), (408, 406, 407, 70), (412, 410, 411, 71), (416, 414, 415, 71), (421, 419, 420, 73), (425, 423, 424, 73), (428, 427, 0, 73), (431, 430, 0, 69), (439, 437, 438, 70), (443, 441, 442, 70), (447, 445, 446, 70), (451, 449, 450, 69), (455, 453, 454, 69), (459, 457, 458, 71), (463, 461, 462, 71), (467, 465, 466, 69)]
def rr_pl2 : List (Nat × Nat × Nat × Nat) := [(473, 471, 472, 70), (478, 476, 477, 69), (481, 480, 0, 69), (487, 485, 486, 69), (491, 489, 490, 71), (495, 493, 494, 69), (499, 497, 498, 69), (504, 502, 503, 69), (508, 506, 507, 75), (512, 510, 511, 71), (520, 518, 519, 73), (524, 523, 2, 75), (528, 527, 3, 75), (532, 531, 4, 75), (537, 536, 0, 75), (541, 540, 5, 75)]
def rr_pl3 : List (Nat × Nat × Nat × Nat) := [(545, 543, 544, 73), (549, 548, 6, 75), (553, 551, 552, 73), (558, 557, 7, 75), (562, 561, 8, 75), (565, 564, 0, 75), (569, 567, 568, 71), (573, 571, 572, 70), (577, 575, 576, 73), (582, 580, 581, 69), (588, 586, 587, 69), (592, 590, 591, 70), (597, 595, 596, 69), (601, 599, 600, 76), (605, 604, 9, 76), (609, 608, 0, 81)]
def rr_pl4 : List (Nat × Nat × Nat × Nat) := [(616, 614, 615, 69), (621, 619, 620, 69), (625, 623, 624, 70), (632, 630, 631, 69), (636, 634, 635, 69), (640, 638, 639, 77), (644, 643, 0, 77), (650, 649, 10, 77), (654, 653, 11, 77), (658, 656, 657, 69), (662, 660, 661, 70), (666, 664, 665, 69), (670, 668, 669, 69), (674, 672, 673, 70), (679, 677, 678, 70), (684, 682, 683, 70)]
def rr_pl5 : List (Nat × Nat × Nat × Nat) := [(691, 689, 690, 69), (695, 693, 694, 69), (699, 697, 698, 70), (703, 702, 0, 69), (709, 708, 0, 69), (716, 714, 715, 69), (720, 718, 719, 70), (726, 724, 725, 69), (731, 730, 12, 69), (736, 735, 13, 69), (741, 740, 0, 82), (786, 784, 785, 82), (790, 788, 789, 70), (794, 792, 793, 73), (798, 797, 14, 82), (802, 801, 15, 82)]
def rr_pl6 : List (Nat × Nat × Nat × Nat) := [(806, 805, 16, 82), (810, 809, 17, 82), (820, 818, 819, 82), (824, 822, 823, 82), (828, 826, 827, 69), (832, 830, 831, 82), (840, 838, 839, 69), (844, 842, 843, 82), (849, 847, 848, 69), (853, 851, 852, 74), (858, 857, 18, 74), (861, 860, 0, 74), (870, 869, 19, 74), (874, 872, 873, 69), (878, 876, 877, 69), (882, 880, 881, 78)]
def rr_pl7 : List (Nat × Nat × Nat × Nat) := [(888, 886, 887, 69), (892, 891, 20, 69), (896, 894, 895, 78), (900, 898, 899, 69), (904, 902, 903, 78), (909, 907, 908, 69), (913, 911, 912, 78), (917, 915, 916, 69), (921, 920, 21, 69), (925, 924, 22, 69), (929, 927, 928, 69), (933, 931, 932, 69), (937, 935, 936, 70), (943, 941, 942, 69), (947, 945, 946, 69), (951, 949, 950, 69)]
def rr_pl8 : List (Nat × Nat × Nat × Nat) := [(955, 953, 954, 69), (959, 957, 958, 69), (964, 963, 0, 79), (1054, 1052, 1053, 79), (1057, 1056, 0, 79), (1061, 1060, 23, 79), (1067, 1065, 1066, 79), (1071, 1070, 24, 79), (1075, 1074, 25, 79), (1079, 1078, 26, 79), (1083, 1082, 27, 79), (1087, 1086, 28, 79), (1091, 1090, 29, 79), (1095, 1094, 30, 79), (1099, 1098, 31, 79), (1103, 1102, 32, 79)]
def rr_pl9 : List (Nat × Nat × Nat × Nat) := [(1107, 1106, 33, 79), (1111, 1109, 1110, 79), (1115, 1114, 34, 79), (1119, 1117, 1118, 79), (1123, 1122, 35, 79), (1127, 1125, 1126, 79), (1131, 1130, 36, 79), (1135, 1134, 37, 79), (1139, 1138, 38, 79), (1143, 1142, 39, 79), (1147, 1146, 40, 79), (1151, 1150, 41, 79), (1155, 1154, 42, 79), (1159, 1158, 43, 79), (1162, 1161, 0, 79), (1166, 1165, 44, 79)]
def rr_pl10 : List (Nat × Nat × Nat × Nat) := [(1169, 1168, 0, 79), (1173, 1172, 45, 79), (1177, 1175, 1176, 79), (1181, 1179, 1180, 79), (1185, 1183, 1184, 79), (1189, 1188, 46, 79), (1193, 1191, 1192, 79), (1196, 1195, 0, 79), (1200, 1198, 1199, 79), (1204, 1202, 1203, 79), (1208, 1206, 1207, 79), (1212, 1211, 47, 79), (1218, 1216, 1217, 79), (1222, 1221, 48, 79), (1226, 1225, 49, 79), (1230, 1229, 50, 79)]
def rr_pl11 : List (Nat × Nat × Nat × Nat) := [(1233, 1232, 0, 79), (1237, 1235, 1236, 79), (1241, 1239, 1240, 79), (1245, 1243, 1244, 79), (1249, 1247, 1248, 79), (1253, 1252, 51, 79), (1257, 1255, 1256, 79), (1260, 1259, 0, 79), (1264, 1263, 52, 79), (1268, 1266, 1267, 79), (1272, 1270, 1271, 79), (1276, 1275, 53, 79), (1280, 1279, 54, 79), (1285, 1284, 55, 79), (1289, 1287, 1288, 79), (1293, 1291, 1292, 79)]
def rr_pl12 : List (Nat × Nat × Nat × Nat) := [(1297, 1296, 56, 79), (1300, 1299, 0, 79), (1304, 1303, 0, 79), (1308, 1306, 1307, 79), (1312, 1310, 1311, 79), (1319, 1318, 57, 79), (1323, 1322, 58, 79), (1327, 1326, 59, 79), (1330, 1329, 0, 79), (1334, 1332, 1333, 79), (1340, 1338, 1339, 79), (1344, 1342, 1343, 79), (1348, 1347, 60, 79), (1352, 1351, 61, 79), (1356, 1355, 62, 79), (1359, 1358, 0, 79)]
def rr_pl13 : List (Nat × Nat × Nat × Nat) := [(1363, 1362, 63, 79), (1367, 1366, 64, 79), (1371, 1370, 65, 79), (1375, 1374, 66, 79), (1379, 1377, 1378, 79), (1383, 1381, 1382, 79), (1386, 1385, 0, 79), (1390, 1388, 1389, 79), (1394, 1392, 1393, 79), (1398, 1396, 1397, 79), (1402, 1401, 67, 79), (1406, 1404, 1405, 79), (1410, 1408, 1409, 79), (1414, 1412, 1413, 79), (1418, 1416, 1417, 79), (1422, 1420, 1421, 79)]
def rr_pl14 : List (Nat × Nat × Nat × Nat) := [(1426, 1424, 1425, 79), (1430, 1428, 1429, 79), (1434, 1432, 1433, 79)]
/-- the methods and their words, place by place -/
def rr_all : List (rr_M × (Nat × Nat × Nat × Nat)) := rr_ms0.zip rr_pl0 ++ (rr_ms1.zip rr_pl1 ++ (rr_ms2.zip rr_pl2 ++ (rr_ms3.zip rr_pl3 ++ (rr_ms4.zip rr_pl4 ++ (rr_ms5.zip rr_pl5 ++ (rr_ms6.zip rr_pl6 ++ (rr_ms7.zip rr_pl7 ++ (rr_ms8.zip rr_pl8 ++ (rr_ms9.zip rr_pl9 ++ (rr_ms10.zip rr_pl10 ++ (rr_ms11.zip rr_pl11 ++ (rr_ms12.zip rr_pl12 ++ (rr_ms13.zip rr_pl13 ++ (rr_ms14.zip rr_pl14))))))))))))))
def rr_m (k : Nat) : Option rr_M := (rr_all[k]?).map Prod.fst
/-- own class, index, target (1000: Object.<init>, 1001: System.arraycopy), 1 if by the nest, place -/
def rr_ML : List (Nat × Nat × Nat × Nat × Nat) := [(11, 9, 0, 0, 85), (9, 1, 1000, 0, 88), (9, 9, 1, 1, 93), (6, 3, 1000, 0, 96), (6, 29, 2, 0, 99), (3, 1, 1000, 0, 102), (3, 7, 1002, 0, 103), (6, 65, 3, 1, 118), (7, 3, 1000, 0, 121), (9, 28, 4, 1, 217), (8, 3, 1000, 0, 220), (8, 11, 2, 0, 222), (9, 35, 5, 1, 243), (2, 3, 1000, 0, 246), (2, 11, 3, 1, 248), (2, 20, 2, 0, 250), (9, 42, 6, 1, 267), (4, 3, 1000, 0, 270), (9, 49, 7, 1, 292), (1, 3, 1000, 0, 295), (9, 61, 8, 1, 317), (5, 3, 1000, 0, 320), (11, 13, 9, 0, 372), (9, 62, 10, 0, 376), (9, 66, 11, 0, 379), (9, 342, 12, 0, 383), (9, 74, 13, 0, 388), (11, 18, 14, 0, 392), (9, 77, 15, 0, 396), (9, 96, 16, 0, 400), (6, 108, 15, 0, 404), (6, 118, 17, 0, 405), (6, 104, 18, 0, 409), (6, 111, 19, 0, 413), (3, 23, 18, 0, 417), (6, 92, 20, 0, 418), (6, 96, 21, 0, 422), (7, 32, 22, 0, 426), (6, 100, 23, 1, 429), (9, 353, 1003, 0, 432), (9, 191, 1002, 0, 435), (9, 100, 24, 0, 436), (6, 124, 25, 0, 440), (9, 104, 26, 0, 444), (11, 23, 27, 0, 448), (11, 28, 28, 0, 452), (9, 111, 29, 0, 456), (9, 116, 30, 0, 460), (11, 32, 31, 0, 464), (9, 119, 18, 0, 468), (9, 122, 19, 0, 469), (9, 125, 32, 0, 470), (6, 121, 16, 0, 474), (11, 36, 33, 0, 475), (9, 128, 34, 0, 479), (11, 40, 35, 0, 484), (9, 132, 36, 0, 488), (11, 44, 37, 0, 492), (11, 50, 38, 0, 496), (11, 55, 39, 0, 501), (9, 141, 40, 0, 505), (2, 27, 41, 0, 509), (3, 27, 1003, 0, 513), (3, 30, 1001, 0, 514), (2, 31, 42, 0, 517), (2, 41, 43, 0, 521), (2, 49, 44, 0, 525), (2, 53, 45, 0, 529), (2, 45, 30, 0, 533), (2, 81, 19, 0, 534), (2, 63, 46, 0, 535), (2, 66, 47, 0, 538), (2, 78, 48, 0, 542), (2, 69, 49, 0, 546), (2, 60, 50, 0, 550), (7, 28, 48, 0, 554), (2, 72, 51, 0, 555), (2, 75, 52, 0, 559), (2, 56, 53, 0, 563), (9, 145, 54, 0, 566), (9, 148, 55, 0, 570), (9, 156, 56, 0, 574), (7, 22, 1001, 0, 578), (11, 59, 57, 0, 579), (9, 162, 20, 0, 583), (9, 166, 42, 0, 584), (11, 63, 58, 0, 585), (9, 170, 59, 0, 589), (11, 68, 60, 0, 594), (9, 173, 61, 0, 598), (4, 25, 62, 0, 602), (4, 32, 1002, 0, 606), (9, 180, 63, 0, 607), (11, 72, 64, 0, 613), (9, 196, 17, 0, 617), (11, 76, 65, 0, 618), (9, 200, 66, 0, 622), (6, 147, 1004, 0, 626), (11, 80, 67, 0, 629), (11, 84, 68, 0, 633), (9, 210, 69, 0, 637), (1, 21, 1003, 0, 641), (1, 27, 70, 0, 642), (1, 60, 1004, 0, 645), (1, 34, 63, 0, 646), (1, 40, 71, 0, 647), (1, 44, 72, 0, 651), (11, 88, 73, 0, 655), (9, 228, 74, 0, 659), (11, 92, 75, 0, 663), (11, 96, 76, 0, 667), (9, 235, 77, 0, 671), (6, 137, 74, 0, 675), (9, 238, 78, 0, 676), (9, 241, 79, 0, 681), (6, 129, 10, 1, 685), (6, 73, 1001, 0, 686), (6, 133, 59, 0, 687), (11, 100, 80, 0, 688), (11, 104, 81, 0, 692), (9, 248, 82, 0, 696), (9, 254, 83, 0, 701), (9, 359, 1005, 0, 704), (9, 363, 84, 0, 707), (9, 367, 1006, 0, 710), (11, 108, 85, 0, 713), (9, 258, 86, 0, 717), (6, 141, 30, 0, 721), (6, 143, 82, 0, 722), (11, 112, 87, 0, 723), (9, 262, 88, 0, 728), (9, 266, 89, 0, 733), (9, 352, 90, 1, 739), (0, 5, 1000, 0, 742), (9, 270, 91, 0, 783), (0, 30, 92, 0, 787), (6, 115, 93, 0, 791), (0, 36, 94, 0, 795), (0, 40, 95, 0, 799), (0, 90, 96, 0, 803), (0, 94, 97, 0, 807), (0, 127, 25, 0, 811), (0, 105, 23, 1, 813), (0, 111, 1003, 0, 816), (9, 276, 98, 0, 817), (9, 279, 99, 0, 821), (11, 117, 100, 0, 825), (9, 283, 101, 0, 829), (0, 64, 1002, 0, 833), (0, 70, 98, 0, 834), (0, 76, 99, 0, 836), (11, 121, 102, 0, 837), (9, 286, 103, 0, 841), (0, 48, 15, 0, 845), (11, 125, 104, 0, 846), (9, 290, 105, 0, 850), (8, 20, 54, 0, 854), (8, 37, 106, 0, 855), (8, 41, 107, 0, 859), (8, 60, 10, 1, 862), (8, 49, 29, 0, 866), (8, 56, 108, 0, 867), (11, 129, 109, 0, 871), (11, 133, 110, 0, 875), (9, 300, 111, 0, 879), (5, 19, 1003, 0, 883), (5, 25, 1002, 0, 884), (11, 137, 112, 0, 885), (9, 303, 113, 0, 889), (9, 307, 114, 0, 893), (11, 141, 115, 0, 897), (9, 311, 116, 0, 901), (9, 317, 1001, 0, 905), (11, 146, 117, 0, 906), (9, 323, 118, 0, 910), (11, 150, 119, 0, 914), (9, 324, 120, 0, 918), (9, 328, 121, 0, 922), (11, 154, 122, 0, 926), (11, 158, 123, 0, 930), (9, 334, 124, 0, 934), (6, 82, 41, 0, 938), (6, 89, 56, 0, 939), (11, 162, 125, 0, 940), (11, 166, 126, 0, 944), (11, 170, 127, 0, 948), (11, 174, 128, 0, 952), (11, 178, 129, 0, 956), (11, 12, 130, 0, 962), (10, 1, 1000, 0, 965), (11, 54, 131, 0, 1051), (10, 69, 132, 0, 1055), (10, 73, 133, 0, 1058), (11, 58, 134, 0, 1064), (10, 123, 135, 0, 1068), (10, 89, 136, 0, 1072), (10, 101, 137, 0, 1076), (10, 104, 138, 0, 1080), (10, 107, 139, 0, 1084), (10, 110, 140, 0, 1088), (10, 93, 141, 0, 1092), (10, 116, 142, 0, 1096), (10, 97, 143, 0, 1100), (10, 120, 144, 0, 1104), (11, 62, 145, 0, 1108), (10, 126, 146, 0, 1112), (11, 17, 147, 0, 1116), (10, 158, 148, 0, 1120), (11, 22, 149, 0, 1124), (10, 162, 150, 0, 1128), (10, 165, 151, 0, 1132), (10, 155, 152, 0, 1136), (10, 152, 153, 0, 1140), (10, 133, 154, 0, 1144), (10, 137, 155, 0, 1148), (10, 146, 156, 0, 1152), (10, 149, 157, 0, 1156), (10, 140, 158, 0, 1160), (10, 143, 159, 0, 1163), (10, 129, 160, 0, 1167), (10, 169, 161, 0, 1170), (11, 27, 162, 0, 1174), (11, 31, 163, 0, 1178), (11, 35, 164, 0, 1182), (10, 172, 165, 0, 1186), (11, 39, 166, 0, 1190), (10, 175, 167, 0, 1194), (11, 43, 168, 0, 1197), (11, 47, 169, 0, 1201), (11, 67, 170, 0, 1205), (10, 181, 171, 0, 1209), (11, 71, 172, 0, 1215), (10, 187, 173, 0, 1219), (10, 190, 174, 0, 1223), (10, 184, 175, 0, 1227), (10, 193, 176, 0, 1231), (11, 75, 177, 0, 1234), (11, 79, 178, 0, 1238), (11, 83, 179, 0, 1242), (11, 87, 180, 0, 1246), (10, 196, 181, 0, 1250), (11, 91, 182, 0, 1254), (10, 202, 183, 0, 1258), (10, 199, 184, 0, 1261), (11, 95, 185, 0, 1265), (11, 99, 186, 0, 1269), (10, 206, 187, 0, 1273), (10, 209, 188, 0, 1277), (10, 212, 189, 0, 1282), (11, 103, 190, 0, 1286), (11, 107, 191, 0, 1290), (10, 219, 192, 0, 1294), (10, 215, 193, 0, 1298), (10, 224, 194, 0, 1302), (11, 111, 195, 0, 1305), (11, 116, 196, 0, 1309), (10, 239, 197, 0, 1316), (10, 231, 198, 0, 1320), (10, 242, 199, 0, 1324), (10, 246, 200, 0, 1328), (11, 120, 201, 0, 1331), (11, 124, 202, 0, 1337), (11, 128, 203, 0, 1341), (10, 267, 204, 0, 1345), (10, 264, 205, 0, 1349), (10, 258, 206, 0, 1353), (10, 261, 207, 0, 1357), (10, 270, 208, 0, 1360), (10, 273, 209, 0, 1364), (10, 276, 210, 0, 1368), (10, 283, 211, 0, 1372), (11, 132, 212, 0, 1376), (11, 136, 213, 0, 1380), (10, 286, 214, 0, 1384), (11, 140, 215, 0, 1387), (11, 145, 216, 0, 1391), (11, 149, 217, 0, 1395), (10, 289, 218, 0, 1399), (11, 153, 219, 0, 1403), (11, 157, 220, 0, 1407), (11, 161, 221, 0, 1411), (11, 165, 222, 0, 1415), (11, 169, 223, 0, 1419), (11, 173, 224, 0, 1423), (11, 177, 225, 0, 1427), (11, 181, 226, 0, 1431)]
/-- own class, index, class, field, kind of its type (0 int, 1 boolean, 2 long, 3 reference), 1 if final, place -/
def rr_FL : List (Nat × Nat × Nat × Nat × Nat × Nat × Nat) := [(3, 13, 3, 0, 3, 1, 106), (3, 19, 3, 1, 0, 0, 107), (7, 9, 7, 0, 3, 1, 122), (7, 15, 7, 1, 3, 1, 123), (7, 18, 7, 2, 0, 0, 124), (6, 9, 6, 0, 3, 1, 132), (9, 81, 6, 0, 3, 1, 133), (6, 15, 6, 1, 3, 1, 134), (9, 84, 6, 1, 3, 1, 135), (1, 57, 6, 1, 3, 1, 136), (6, 18, 6, 2, 3, 1, 137), (9, 87, 6, 2, 3, 1, 138), (0, 117, 6, 2, 3, 1, 139), (6, 21, 6, 3, 3, 1, 140), (0, 52, 6, 3, 3, 1, 141), (9, 90, 6, 3, 3, 1, 142), (6, 24, 6, 4, 3, 1, 143), (1, 15, 6, 5, 0, 0, 144), (9, 70, 6, 5, 0, 0, 145), (6, 79, 6, 5, 0, 0, 146), (0, 114, 6, 5, 0, 0, 147), (6, 32, 6, 6, 3, 1, 148), (9, 107, 6, 6, 3, 1, 149), (6, 36, 6, 7, 0, 0, 150), (9, 93, 6, 7, 0, 0, 151), (0, 124, 6, 7, 0, 0, 152), (6, 40, 6, 8, 0, 0, 153), (1, 63, 6, 8, 0, 0, 154), (9, 204, 6, 8, 0, 0, 155), (6, 43, 6, 9, 0, 0, 156), (1, 66, 6, 9, 0, 0, 157), (9, 207, 6, 9, 0, 0, 158), (6, 46, 6, 10, 3, 1, 159), (0, 101, 6, 10, 3, 1, 160), (9, 225, 6, 10, 3, 1, 161), (6, 51, 6, 11, 3, 1, 162), (0, 120, 6, 11, 3, 1, 163), (9, 231, 6, 11, 3, 1, 164), (6, 86, 6, 12, 0, 0, 165), (0, 98, 6, 12, 0, 0, 166), (9, 167, 6, 12, 0, 0, 167), (6, 54, 6, 13, 0, 0, 168), (9, 245, 6, 13, 0, 0, 169), (6, 57, 6, 14, 3, 1, 170), (9, 136, 6, 14, 3, 1, 171), (6, 60, 6, 15, 3, 1, 172), (9, 339, 6, 15, 3, 1, 173), (6, 66, 6, 16, 3, 1, 174), (6, 70, 6, 17, 3, 1, 175), (8, 14, 8, 0, 3, 1, 223), (9, 297, 8, 0, 3, 1, 224), (8, 23, 8, 1, 1, 0, 225), (9, 293, 8, 1, 1, 0, 226), (8, 27, 8, 2, 0, 0, 227), (8, 31, 8, 3, 0, 0, 228), (8, 34, 8, 4, 0, 0, 229), (2, 12, 2, 0, 3, 1, 251), (9, 152, 2, 0, 3, 1, 252), (2, 23, 2, 1, 3, 1, 253), (2, 34, 2, 2, 0, 0, 254), (2, 38, 2, 3, 0, 0, 255), (4, 18, 4, 0, 0, 0, 271), (9, 177, 4, 0, 0, 0, 272), (4, 29, 4, 1, 0, 0, 273), (9, 185, 4, 1, 0, 0, 274), (4, 22, 4, 2, 0, 0, 275), (9, 188, 4, 2, 0, 0, 276), (4, 9, 4, 3, 3, 1, 277), (4, 15, 4, 4, 3, 1, 278), (1, 31, 1, 0, 0, 0, 296), (9, 213, 1, 0, 0, 0, 297), (1, 48, 1, 1, 0, 0, 298), (9, 216, 1, 1, 0, 0, 299), (1, 51, 1, 2, 0, 0, 300), (9, 219, 1, 2, 0, 0, 301), (1, 54, 1, 3, 0, 0, 302), (9, 222, 1, 3, 0, 0, 303), (1, 9, 1, 4, 3, 1, 304), (5, 15, 5, 0, 0, 0, 321), (9, 308, 5, 0, 0, 0, 322), (5, 28, 5, 1, 0, 0, 323), (9, 306, 5, 1, 0, 0, 324), (5, 9, 5, 2, 3, 1, 325), (9, 314, 5, 2, 3, 1, 326), (9, 10, 9, 0, 3, 1, 335), (9, 331, 9, 1, 3, 0, 336), (9, 336, 9, 2, 0, 0, 337), (9, 16, 9, 3, 3, 1, 338), (9, 22, 9, 4, 3, 1, 339), (9, 29, 9, 5, 3, 1, 340), (9, 36, 9, 6, 3, 1, 341), (9, 43, 9, 7, 3, 1, 342), (9, 50, 9, 8, 3, 1, 343), (9, 54, 9, 9, 3, 1, 344), (9, 57, 9, 10, 3, 1, 345), (9, 348, 9, 11, 3, 0, 346), (0, 11, 0, 0, 3, 1, 743), (0, 15, 0, 1, 3, 1, 744), (0, 87, 0, 2, 0, 0, 745), (0, 18, 0, 3, 3, 1, 746), (0, 21, 0, 4, 3, 1, 747), (0, 24, 0, 5, 3, 1, 748), (0, 27, 0, 6, 3, 1, 749), (0, 61, 0, 7, 0, 0, 750), (0, 55, 0, 8, 0, 0, 751), (0, 44, 0, 9, 0, 0, 752), (0, 80, 0, 10, 0, 0, 753), (0, 58, 0, 11, 0, 0, 754), (0, 83, 0, 12, 1, 0, 755), (10, 7, 10, 0, 3, 1, 966), (10, 13, 10, 1, 3, 1, 967), (10, 16, 10, 2, 3, 1, 968), (10, 292, 10, 3, 0, 0, 969), (10, 19, 10, 4, 3, 1, 970), (10, 79, 10, 5, 0, 0, 971), (10, 113, 10, 6, 0, 0, 972), (10, 86, 10, 7, 0, 0, 973), (10, 83, 10, 8, 0, 0, 974), (10, 22, 10, 9, 3, 1, 975), (10, 25, 10, 10, 3, 1, 976), (10, 28, 10, 11, 3, 1, 977), (10, 31, 10, 12, 3, 1, 978), (10, 34, 10, 13, 3, 1, 979), (10, 37, 10, 14, 3, 1, 980), (10, 40, 10, 15, 3, 1, 981), (10, 43, 10, 16, 3, 1, 982), (10, 46, 10, 17, 3, 1, 983), (10, 228, 10, 18, 0, 0, 984), (10, 49, 10, 19, 3, 1, 985), (10, 252, 10, 20, 0, 0, 986), (10, 255, 10, 21, 0, 0, 987), (10, 279, 10, 22, 1, 0, 988), (10, 52, 10, 23, 3, 1, 989), (10, 55, 10, 24, 3, 1, 990), (10, 58, 10, 25, 3, 1, 991), (10, 61, 10, 26, 3, 1, 992), (10, 64, 10, 27, 3, 1, 993)]
def rr_SL : List (Nat × Nat × Nat × Nat × Nat) := [(9, 356, 0, 0, 482), (0, 108, 2, 0, 814), (8, 53, 0, 1, 863), (8, 45, 1, 1, 864)]
def rr_CL : List (Nat × Nat × Nat × Nat) := [(11, 7, 9, 83), (9, 7, 6, 91), (6, 27, 3, 97), (6, 49, 100, 114), (6, 63, 7, 116), (9, 20, 5, 213), (9, 26, 8, 215), (8, 9, 3, 221), (9, 33, 2, 241), (2, 9, 7, 247), (2, 18, 3, 249), (9, 40, 4, 265), (9, 47, 1, 290), (9, 271, 0, 737), (11, 10, 10, 960)]
def rr_KI : List (Nat × Nat × Int32 × Nat) := [(9, 345, (-1000000000), 387), (6, 128, 999999999, 593), (12, 265, 1431655765, 610), (12, 266, 858993459, 611), (12, 267, 252645135, 612), (6, 140, 1103515245, 680), (9, 261, 99999, 727), (0, 104, 999999999, 812), (10, 68, (-1000000000), 1062), (10, 179, (-999999999), 1213), (10, 180, 999999999, 1214), (10, 205, 1103515245, 1281), (10, 234, 99999, 1313), (10, 249, 100000, 1335)]
def rr_KJ : List (Nat × Nat × Int64 × Nat) := [(9, 139, 255, 500), (9, 252, 16, 700), (9, 346, (-1000000000000), 732), (0, 74, 100, 835), (10, 77, 255, 1063), (10, 222, 16, 1301), (10, 235, (-1000000000001), 1314), (10, 237, (-1000000000003), 1315), (10, 250, 100, 1336), (11, 48, 4294967295, 1435)]
def rr_IN : List (Nat × Nat × Nat) := [(9, 12, 84), (6, 18, 92), (3, 2, 98), (7, 3, 117), (8, 5, 216), (2, 4, 242), (4, 5, 266), (1, 5, 291), (5, 3, 316), (0, 13, 738), (10, 28, 961)]
/-- a new object of each class: its fields -/
def rr_DF : List (List Value) := [[.null, .null, .int 0, .null, .null, .null, .null, .int 0, .int 0, .int 0, .int 0, .int 0, .int 0], [.int 0, .int 0, .int 0, .int 0, .null], [.null, .null, .int 0, .int 0], [.null, .int 0], [.int 0, .int 0, .int 0, .null, .null], [.int 0, .int 0, .null], [.null, .null, .null, .null, .null, .int 0, .null, .int 0, .int 0, .int 0, .null, .null, .int 0, .int 0, .null, .null, .null, .null], [.null, .null, .int 0], [.null, .int 0, .int 0, .int 0, .int 0], [.null, .null, .int 0, .null, .null, .null, .null, .null, .null, .null, .null, .null], [.null, .null, .null, .int 0, .null, .int 0, .int 0, .int 0, .int 0, .null, .null, .null, .null, .null, .null, .null, .null, .null, .int 0, .null, .int 0, .int 0, .int 0, .null, .null, .null, .null, .null]]
def rr_lay0 : List Nat := [756, 758, 760, 762, 764, 766, 768, 770, 772, 774, 776, 778, 780]
def rr_lay1 : List Nat := [305, 307, 309, 311, 313]
def rr_lay2 : List Nat := [256, 258, 260, 262]
def rr_lay3 : List Nat := [108, 110]
def rr_lay4 : List Nat := [279, 281, 283, 285, 287]
def rr_lay5 : List Nat := [327, 329, 331]
def rr_lay6 : List Nat := [176, 178, 180, 182, 184, 186, 188, 190, 192, 194, 196, 198, 200, 202, 204, 206, 208, 210]
def rr_lay7 : List Nat := [125, 127, 129]
def rr_lay8 : List Nat := [230, 232, 234, 236, 238]
def rr_lay9 : List Nat := [347, 349, 351, 353, 355, 357, 359, 361, 363, 365, 367, 369]
def rr_lay10 : List Nat := [994, 996, 998, 1000, 1002, 1004, 1006, 1008, 1010, 1012, 1014, 1016, 1018, 1020, 1022, 1024, 1026, 1028, 1030, 1032, 1034, 1036, 1038, 1040, 1042, 1044, 1046, 1048]
