def RX0 : String := "DreamWindows$Believer"
def TX0 : u_T := fun k => match k with
  | _ => ("DreamWindows$Kind", "number", "I", true)
def tyX0 : Nat → FieldType := fun k => match k with
  | _ => .int
theorem nmX0 : ∀ a, a < 1 → ∀ b, b < 1 → a ≠ b → (TX0 a).2.1 ≠ (TX0 b).2.1 := by decide +kernel
theorem tyX0_ok : ∀ k, k < 1 → parseFieldDescriptor (TX0 k).2.2.1 = some (tyX0 k) := by decide +kernel
abbrev cX0_init : ByteArray := prog_2_method_1_code
def yX0_init : MethodName := ⟨RX0, "<init>", "(I)V"⟩
abbrev cX0_dullerBy : ByteArray := prog_2_method_2_code
def yX0_dullerBy : MethodName := ⟨RX0, "dullerBy", "(IIII)I"⟩
abbrev cX0_limitBy : ByteArray := prog_2_method_3_code
def yX0_limitBy : MethodName := ⟨RX0, "limitBy", "(III)I"⟩
def RX1 : String := "DreamWindows$Bride"
def TX1 : u_T := fun k => match k with
  | _ => ("DreamWindows$Kind", "number", "I", true)
def tyX1 : Nat → FieldType := fun k => match k with
  | _ => .int
theorem nmX1 : ∀ a, a < 1 → ∀ b, b < 1 → a ≠ b → (TX1 a).2.1 ≠ (TX1 b).2.1 := by decide +kernel
theorem tyX1_ok : ∀ k, k < 1 → parseFieldDescriptor (TX1 k).2.2.1 = some (tyX1 k) := by decide +kernel
abbrev cX1_init : ByteArray := prog_3_method_1_code
def yX1_init : MethodName := ⟨RX1, "<init>", "(I)V"⟩
abbrev cX1_limitBy : ByteArray := prog_3_method_2_code
def yX1_limitBy : MethodName := ⟨RX1, "limitBy", "(III)I"⟩
abbrev cX1_costBy : ByteArray := prog_3_method_3_code
def yX1_costBy : MethodName := ⟨RX1, "costBy", "(II)I"⟩
def RX2 : String := "DreamWindows$Child"
def TX2 : u_T := fun k => match k with
  | _ => ("DreamWindows$Kind", "number", "I", true)
def tyX2 : Nat → FieldType := fun k => match k with
  | _ => .int
theorem nmX2 : ∀ a, a < 1 → ∀ b, b < 1 → a ≠ b → (TX2 a).2.1 ≠ (TX2 b).2.1 := by decide +kernel
theorem tyX2_ok : ∀ k, k < 1 → parseFieldDescriptor (TX2 k).2.2.1 = some (tyX2 k) := by decide +kernel
abbrev cX2_init : ByteArray := prog_4_method_1_code
def yX2_init : MethodName := ⟨RX2, "<init>", "(I)V"⟩
abbrev cX2_dullerBy : ByteArray := prog_4_method_2_code
def yX2_dullerBy : MethodName := ⟨RX2, "dullerBy", "(IIII)I"⟩
abbrev cX2_costBy : ByteArray := prog_4_method_3_code
def yX2_costBy : MethodName := ⟨RX2, "costBy", "(II)I"⟩
def RX3 : String := "DreamWindows$Image"
def TX3 : u_T := fun k => match k with
  | 0 => ("DreamWindows$Image", "sleepers", "I", false)
  | 1 => ("DreamWindows$Image", "night", "I", false)
  | 2 => ("DreamWindows$Image", "minutes", "I", false)
  | 3 => ("DreamWindows$Image", "law", "I", false)
  | _ => ("DreamWindows$Image", "panes", "[LDreamWindows$Pane;", true)
def tyX3 : Nat → FieldType := fun k => match k with
  | 0 => .int
  | 1 => .int
  | 2 => .int
  | 3 => .int
  | _ => .array (.object "DreamWindows$Pane")
theorem nmX3 : ∀ a, a < 5 → ∀ b, b < 5 → a ≠ b → (TX3 a).2.1 ≠ (TX3 b).2.1 := by decide +kernel
theorem tyX3_ok : ∀ k, k < 5 → parseFieldDescriptor (TX3 k).2.2.1 = some (tyX3 k) := by decide +kernel
abbrev cX3_init : ByteArray := prog_5_method_1_code
def yX3_init : MethodName := ⟨RX3, "<init>", "([LDreamWindows$Pane;)V"⟩
def RX4 : String := "DreamWindows$Kind"
def TX4 : u_T := fun k => match k with
  | _ => ("DreamWindows$Kind", "number", "I", true)
def tyX4 : Nat → FieldType := fun k => match k with
  | _ => .int
theorem nmX4 : ∀ a, a < 1 → ∀ b, b < 1 → a ≠ b → (TX4 a).2.1 ≠ (TX4 b).2.1 := by decide +kernel
theorem tyX4_ok : ∀ k, k < 1 → parseFieldDescriptor (TX4 k).2.2.1 = some (tyX4 k) := by decide +kernel
abbrev cX4_init : ByteArray := prog_6_method_1_code
def yX4_init : MethodName := ⟨RX4, "<init>", "(I)V"⟩
abbrev cX4_dullerBy : ByteArray := prog_6_method_2_code
def yX4_dullerBy : MethodName := ⟨RX4, "dullerBy", "(IIII)I"⟩
abbrev cX4_limitBy : ByteArray := prog_6_method_3_code
def yX4_limitBy : MethodName := ⟨RX4, "limitBy", "(III)I"⟩
abbrev cX4_costBy : ByteArray := prog_6_method_4_code
def yX4_costBy : MethodName := ⟨RX4, "costBy", "(II)I"⟩
def RX5 : String := "DreamWindows$Manager"
def TX5 : u_T := fun k => match k with
  | _ => ("DreamWindows$Kind", "number", "I", true)
def tyX5 : Nat → FieldType := fun k => match k with
  | _ => .int
theorem nmX5 : ∀ a, a < 1 → ∀ b, b < 1 → a ≠ b → (TX5 a).2.1 ≠ (TX5 b).2.1 := by decide +kernel
theorem tyX5_ok : ∀ k, k < 1 → parseFieldDescriptor (TX5 k).2.2.1 = some (tyX5 k) := by decide +kernel
abbrev cX5_init : ByteArray := prog_7_method_1_code
def yX5_init : MethodName := ⟨RX5, "<init>", "(I)V"⟩
abbrev cX5_dullerBy : ByteArray := prog_7_method_2_code
def yX5_dullerBy : MethodName := ⟨RX5, "dullerBy", "(IIII)I"⟩
abbrev cX5_costBy : ByteArray := prog_7_method_3_code
def yX5_costBy : MethodName := ⟨RX5, "costBy", "(II)I"⟩
def RX6 : String := "DreamWindows$Merchant"
def TX6 : u_T := fun k => match k with
  | _ => ("DreamWindows$Kind", "number", "I", true)
def tyX6 : Nat → FieldType := fun k => match k with
  | _ => .int
theorem nmX6 : ∀ a, a < 1 → ∀ b, b < 1 → a ≠ b → (TX6 a).2.1 ≠ (TX6 b).2.1 := by decide +kernel
theorem tyX6_ok : ∀ k, k < 1 → parseFieldDescriptor (TX6 k).2.2.1 = some (tyX6 k) := by decide +kernel
abbrev cX6_init : ByteArray := prog_8_method_1_code
def yX6_init : MethodName := ⟨RX6, "<init>", "(I)V"⟩
abbrev cX6_dullerBy : ByteArray := prog_8_method_2_code
def yX6_dullerBy : MethodName := ⟨RX6, "dullerBy", "(IIII)I"⟩
def RX7 : String := "DreamWindows$Pane"
def TX7 : u_T := fun k => match k with
  | 0 => ("DreamWindows$Pane", "kind", "LDreamWindows$Kind;", false)
  | 1 => ("DreamWindows$Pane", "more", "I", false)
  | 2 => ("DreamWindows$Pane", "picture", "I", false)
  | 3 => ("DreamWindows$Pane", "dull", "[I", true)
  | _ => ("DreamWindows$Pane", "named", "[I", true)
def tyX7 : Nat → FieldType := fun k => match k with
  | 0 => .object "DreamWindows$Kind"
  | 1 => .int
  | 2 => .int
  | 3 => .array .int
  | _ => .array .int
theorem nmX7 : ∀ a, a < 5 → ∀ b, b < 5 → a ≠ b → (TX7 a).2.1 ≠ (TX7 b).2.1 := by decide +kernel
theorem tyX7_ok : ∀ k, k < 5 → parseFieldDescriptor (TX7 k).2.2.1 = some (tyX7 k) := by decide +kernel
abbrev cX7_init : ByteArray := prog_9_method_1_code
def yX7_init : MethodName := ⟨RX7, "<init>", "(LDreamWindows$Kind;)V"⟩
abbrev cX7_takeAfter : ByteArray := prog_9_method_2_code
def yX7_takeAfter : MethodName := ⟨RX7, "takeAfter", "(LDreamWindows$Pane;)V"⟩
abbrev cX7_said : ByteArray := prog_9_method_3_code
def yX7_said : MethodName := ⟨RX7, "said", "(LDreamWindows$Text;III)I"⟩
abbrev cX7_cost : ByteArray := prog_9_method_4_code
def yX7_cost : MethodName := ⟨RX7, "cost", "(LDreamWindows$Text;II)I"⟩
abbrev cX7_costOf : ByteArray := prog_9_method_5_code
def yX7_costOf : MethodName := ⟨RX7, "costOf", "(LDreamWindows$Text;II)I"⟩
abbrev cX7_isClear : ByteArray := prog_9_method_6_code
def yX7_isClear : MethodName := ⟨RX7, "isClear", "(LDreamWindows$Text;II)Z"⟩
abbrev cX7_clearCells : ByteArray := prog_9_method_7_code
def yX7_clearCells : MethodName := ⟨RX7, "clearCells", "(LDreamWindows$Text;I)I"⟩
abbrev cX7_seenCells : ByteArray := prog_9_method_8_code
def yX7_seenCells : MethodName := ⟨RX7, "seenCells", "(LDreamWindows$Text;I)I"⟩
abbrev cX7_passNightAt : ByteArray := prog_9_method_9_code
def yX7_passNightAt : MethodName := ⟨RX7, "passNightAt", "(LDreamWindows$Text;II)V"⟩
abbrev cX7_passNight : ByteArray := prog_9_method_10_code
def yX7_passNight : MethodName := ⟨RX7, "passNight", "(LDreamWindows$Text;I)V"⟩
abbrev cX7_dullMore : ByteArray := prog_9_method_11_code
def yX7_dullMore : MethodName := ⟨RX7, "dullMore", "(II)V"⟩
abbrev cX7_dullAll : ByteArray := prog_9_method_12_code
def yX7_dullAll : MethodName := ⟨RX7, "dullAll", "(I)V"⟩
abbrev cX7_dullTogether : ByteArray := prog_9_method_13_code
def yX7_dullTogether : MethodName := ⟨RX7, "dullTogether", "()I"⟩
def RX8 : String := "DreamWindows$Sheet"
def TX8 : u_T := fun k => match k with
  | 0 => ("DreamWindows$Sheet", "sort", "I", false)
  | 1 => ("DreamWindows$Sheet", "size", "I", false)
  | _ => ("DreamWindows$Sheet", "numbers", "[I", true)
def tyX8 : Nat → FieldType := fun k => match k with
  | 0 => .int
  | 1 => .int
  | _ => .array .int
theorem nmX8 : ∀ a, a < 3 → ∀ b, b < 3 → a ≠ b → (TX8 a).2.1 ≠ (TX8 b).2.1 := by decide +kernel
theorem tyX8_ok : ∀ k, k < 3 → parseFieldDescriptor (TX8 k).2.2.1 = some (tyX8 k) := by decide +kernel
abbrev cX8_init : ByteArray := prog_10_method_1_code
def yX8_init : MethodName := ⟨RX8, "<init>", "()V"⟩
abbrev cX8_become : ByteArray := prog_10_method_2_code
def yX8_become : MethodName := ⟨RX8, "become", "(II)V"⟩
abbrev cX8_write : ByteArray := prog_10_method_3_code
def yX8_write : MethodName := ⟨RX8, "write", "(II)V"⟩
abbrev cX8_holds : ByteArray := prog_10_method_4_code
def yX8_holds : MethodName := ⟨RX8, "holds", "(II)Z"⟩
abbrev cX8_anyBits : ByteArray := prog_10_method_5_code
def yX8_anyBits : MethodName := ⟨RX8, "anyBits", "()I"⟩
def RX9 : String := "DreamWindows$Tape"
def TX9 : u_T := fun k => match k with
  | 0 => ("DreamWindows$Tape", "size", "I", false)
  | 1 => ("DreamWindows$Tape", "start", "I", false)
  | 2 => ("DreamWindows$Tape", "bytes", "[I", true)
  | 3 => ("DreamWindows$Tape", "codes", "[I", true)
  | 4 => ("DreamWindows$Tape", "ends", "[I", true)
  | 5 => ("DreamWindows$Tape", "codeCount", "I", false)
  | 6 => ("DreamWindows$Tape", "next", "I", false)
  | 7 => ("DreamWindows$Tape", "token", "I", false)
  | _ => ("DreamWindows$Tape", "number", "I", false)
def tyX9 : Nat → FieldType := fun k => match k with
  | 0 => .int
  | 1 => .int
  | 2 => .array .int
  | 3 => .array .int
  | 4 => .array .int
  | 5 => .int
  | 6 => .int
  | 7 => .int
  | _ => .int
theorem nmX9 : ∀ a, a < 9 → ∀ b, b < 9 → a ≠ b → (TX9 a).2.1 ≠ (TX9 b).2.1 := by decide +kernel
theorem tyX9_ok : ∀ k, k < 9 → parseFieldDescriptor (TX9 k).2.2.1 = some (tyX9 k) := by decide +kernel
abbrev cX9_init : ByteArray := prog_11_method_1_code
def yX9_init : MethodName := ⟨RX9, "<init>", "()V"⟩
abbrev cX9_add : ByteArray := prog_11_method_2_code
def yX9_add : MethodName := ⟨RX9, "add", "(I)V"⟩
abbrev cX9_readWhole : ByteArray := prog_11_method_3_code
def yX9_readWhole : MethodName := ⟨RX9, "readWhole", "()Z"⟩
abbrev cX9_written : ByteArray := prog_11_method_4_code
def yX9_written : MethodName := ⟨RX9, "written", "()LDreamWindows$Text;"⟩
abbrev cX9_readPart : ByteArray := prog_11_method_5_code
def yX9_readPart : MethodName := ⟨RX9, "readPart", "(I)Z"⟩
abbrev cX9_readEither : ByteArray := prog_11_method_6_code
def yX9_readEither : MethodName := ⟨RX9, "readEither", "(I)Z"⟩
abbrev cX9_readBoth : ByteArray := prog_11_method_7_code
def yX9_readBoth : MethodName := ⟨RX9, "readBoth", "(I)Z"⟩
abbrev cX9_readNot : ByteArray := prog_11_method_8_code
def yX9_readNot : MethodName := ⟨RX9, "readNot", "(I)Z"⟩
abbrev cX9_readSum : ByteArray := prog_11_method_9_code
def yX9_readSum : MethodName := ⟨RX9, "readSum", "(I)Z"⟩
abbrev cX9_readTerm : ByteArray := prog_11_method_10_code
def yX9_readTerm : MethodName := ⟨RX9, "readTerm", "(I)Z"⟩
abbrev cX9_readOne : ByteArray := prog_11_method_11_code
def yX9_readOne : MethodName := ⟨RX9, "readOne", "(I)Z"⟩
abbrev cX9_write : ByteArray := prog_11_method_12_code
def yX9_write : MethodName := ⟨RX9, "write", "(I)V"⟩
abbrev cX9_step : ByteArray := prog_11_method_13_code
def yX9_step : MethodName := ⟨RX9, "step", "()V"⟩
abbrev cX9_stepWord : ByteArray := prog_11_method_14_code
def yX9_stepWord : MethodName := ⟨RX9, "stepWord", "()V"⟩
abbrev cX9_isWordFrom : ByteArray := prog_11_method_15_code
def yX9_isWordFrom : MethodName := ⟨RX9, "isWordFrom", "(I)Z"⟩
abbrev cX9_stepNumber : ByteArray := prog_11_method_16_code
def yX9_stepNumber : MethodName := ⟨RX9, "stepNumber", "()V"⟩
abbrev cX9_isLetter : ByteArray := prog_11_method_17_code
def yX9_isLetter : MethodName := ⟨RX9, "isLetter", "(I)Z"⟩
abbrev cX9_isDigit : ByteArray := prog_11_method_18_code
def yX9_isDigit : MethodName := ⟨RX9, "isDigit", "(I)Z"⟩
abbrev cX9_isSign : ByteArray := prog_11_method_19_code
def yX9_isSign : MethodName := ⟨RX9, "isSign", "(I)Z"⟩
def RX10 : String := "DreamWindows$Text"
def TX10 : u_T := fun k => match k with
  | 0 => ("DreamWindows$Text", "codes", "[I", true)
  | 1 => ("DreamWindows$Text", "ends", "[I", true)
  | _ => ("DreamWindows$Text", "waiting", "[I", true)
def tyX10 : Nat → FieldType := fun k => match k with
  | 0 => .array .int
  | 1 => .array .int
  | _ => .array .int
theorem nmX10 : ∀ a, a < 3 → ∀ b, b < 3 → a ≠ b → (TX10 a).2.1 ≠ (TX10 b).2.1 := by decide +kernel
theorem tyX10_ok : ∀ k, k < 3 → parseFieldDescriptor (TX10 k).2.2.1 = some (tyX10 k) := by decide +kernel
abbrev cX10_init : ByteArray := prog_12_method_1_code
def yX10_init : MethodName := ⟨RX10, "<init>", "([I[I)V"⟩
abbrev cX10_worth : ByteArray := prog_12_method_2_code
def yX10_worth : MethodName := ⟨RX10, "worth", "(I[I)I"⟩
abbrev cX10_joined : ByteArray := prog_12_method_3_code
def yX10_joined : MethodName := ⟨RX10, "joined", "(III)I"⟩
def RX11 : String := "DreamWindows"
def TX11 : u_T := fun k => match k with
  | 0 => ("DreamWindows", "everyKind", "[LDreamWindows$Kind;", true)
  | 1 => ("DreamWindows", "panes", "[LDreamWindows$Pane;", true)
  | 2 => ("DreamWindows", "thoughts", "[LDreamWindows$Pane;", true)
  | 3 => ("DreamWindows", "kept", "LDreamWindows$Image;", true)
  | 4 => ("DreamWindows", "texts", "[LDreamWindows$Text;", true)
  | 5 => ("DreamWindows", "tape", "LDreamWindows$Tape;", true)
  | 6 => ("DreamWindows", "sheets", "[LDreamWindows$Sheet;", true)
  | 7 => ("DreamWindows", "price", "[I", true)
  | 8 => ("DreamWindows", "least", "[I", true)
  | 9 => ("DreamWindows", "sleepers", "I", false)
  | 10 => ("DreamWindows", "night", "I", false)
  | 11 => ("DreamWindows", "minutes", "I", false)
  | 12 => ("DreamWindows", "textCount", "I", false)
  | _ => ("DreamWindows", "law", "I", false)
def tyX11 : Nat → FieldType := fun k => match k with
  | 0 => .array (.object "DreamWindows$Kind")
  | 1 => .array (.object "DreamWindows$Pane")
  | 2 => .array (.object "DreamWindows$Pane")
  | 3 => .object "DreamWindows$Image"
  | 4 => .array (.object "DreamWindows$Text")
  | 5 => .object "DreamWindows$Tape"
  | 6 => .array (.object "DreamWindows$Sheet")
  | 7 => .array .int
  | 8 => .array .int
  | 9 => .int
  | 10 => .int
  | 11 => .int
  | 12 => .int
  | _ => .int
theorem nmX11 : ∀ a, a < 14 → ∀ b, b < 14 → a ≠ b → (TX11 a).2.1 ≠ (TX11 b).2.1 := by decide +kernel
theorem tyX11_ok : ∀ k, k < 14 → parseFieldDescriptor (TX11 k).2.2.1 = some (tyX11 k) := by decide +kernel
abbrev cX11_init : ByteArray := prog_1_method_1_code
def yX11_init : MethodName := ⟨RX11, "<init>", "()V"⟩
abbrev cX11_newPanes : ByteArray := prog_1_method_2_code
def yX11_newPanes : MethodName := ⟨RX11, "newPanes", "(LDreamWindows$Kind;)[LDreamWindows$Pane;"⟩
abbrev cX11_count : ByteArray := prog_1_method_3_code
def yX11_count : MethodName := ⟨RX11, "count", "(I)I"⟩
abbrev cX11_hours : ByteArray := prog_1_method_4_code
def yX11_hours : MethodName := ⟨RX11, "hours", "(I)I"⟩
abbrev cX11_feed : ByteArray := prog_1_method_5_code
def yX11_feed : MethodName := ⟨RX11, "feed", "(IIIIII)I"⟩
abbrev cX11_text : ByteArray := prog_1_method_6_code
def yX11_text : MethodName := ⟨RX11, "text", "()I"⟩
abbrev cX11_force : ByteArray := prog_1_method_7_code
def yX11_force : MethodName := ⟨RX11, "force", "(I)I"⟩
abbrev cX11_asks : ByteArray := prog_1_method_8_code
def yX11_asks : MethodName := ⟨RX11, "asks", "(III)I"⟩
abbrev cX11_sleeper : ByteArray := prog_1_method_9_code
def yX11_sleeper : MethodName := ⟨RX11, "sleeper", "(III)I"⟩
abbrev cX11_put : ByteArray := prog_1_method_10_code
def yX11_put : MethodName := ⟨RX11, "put", "(III)I"⟩
abbrev cX11_told : ByteArray := prog_1_method_11_code
def yX11_told : MethodName := ⟨RX11, "told", "(II)I"⟩
abbrev cX11_view : ByteArray := prog_1_method_12_code
def yX11_view : MethodName := ⟨RX11, "view", "(II)I"⟩
abbrev cX11_all : ByteArray := prog_1_method_13_code
def yX11_all : MethodName := ⟨RX11, "all", "(I)I"⟩
abbrev cX11_sleep : ByteArray := prog_1_method_14_code
def yX11_sleep : MethodName := ⟨RX11, "sleep", "()I"⟩
abbrev cX11_clean : ByteArray := prog_1_method_15_code
def yX11_clean : MethodName := ⟨RX11, "clean", "(II)I"⟩
abbrev cX11_run : ByteArray := prog_1_method_16_code
def yX11_run : MethodName := ⟨RX11, "run", "(III)I"⟩
abbrev cX11_blind : ByteArray := prog_1_method_17_code
def yX11_blind : MethodName := ⟨RX11, "blind", "(I)I"⟩
abbrev cX11_best : ByteArray := prog_1_method_18_code
def yX11_best : MethodName := ⟨RX11, "best", "(II)I"⟩
abbrev cX11_whom : ByteArray := prog_1_method_19_code
def yX11_whom : MethodName := ⟨RX11, "whom", "(I)I"⟩
abbrev cX11_show : ByteArray := prog_1_method_20_code
def yX11_show : MethodName := ⟨RX11, "show", "(II)I"⟩
abbrev cX11_way : ByteArray := prog_1_method_21_code
def yX11_way : MethodName := ⟨RX11, "way", "(II)I"⟩
abbrev cX11_often : ByteArray := prog_1_method_22_code
def yX11_often : MethodName := ⟨RX11, "often", "(I)I"⟩
abbrev cX11_joins : ByteArray := prog_1_method_23_code
def yX11_joins : MethodName := ⟨RX11, "joins", "(II)I"⟩
abbrev cX11_judge : ByteArray := prog_1_method_24_code
def yX11_judge : MethodName := ⟨RX11, "judge", "(II)I"⟩
abbrev cX11_kinds : ByteArray := prog_1_method_25_code
def yX11_kinds : MethodName := ⟨RX11, "kinds", "(III)I"⟩
abbrev cX11_dims : ByteArray := prog_1_method_26_code
def yX11_dims : MethodName := ⟨RX11, "dims", "(III)I"⟩
abbrev cX11_laws : ByteArray := prog_1_method_27_code
def yX11_laws : MethodName := ⟨RX11, "laws", "(II)I"⟩
abbrev cX11_guess : ByteArray := prog_1_method_28_code
def yX11_guess : MethodName := ⟨RX11, "guess", "(III)I"⟩
abbrev cX11_film : ByteArray := prog_1_method_29_code
def yX11_film : MethodName := ⟨RX11, "film", "(III)I"⟩
abbrev cX11_drawn : ByteArray := prog_1_method_30_code
def yX11_drawn : MethodName := ⟨RX11, "drawn", "(II)I"⟩
abbrev cX11_odds : ByteArray := prog_1_method_31_code
def yX11_odds : MethodName := ⟨RX11, "odds", "(IIIII)J"⟩
abbrev cX11_image : ByteArray := prog_1_method_32_code
def yX11_image : MethodName := ⟨RX11, "image", "()I"⟩
abbrev cX11_back : ByteArray := prog_1_method_33_code
def yX11_back : MethodName := ⟨RX11, "back", "()I"⟩
abbrev cX11_sheet : ByteArray := prog_1_method_34_code
def yX11_sheet : MethodName := ⟨RX11, "sheet", "(III)I"⟩
abbrev cX11_cell : ByteArray := prog_1_method_35_code
def yX11_cell : MethodName := ⟨RX11, "cell", "(III)I"⟩
abbrev cX11_copy : ByteArray := prog_1_method_36_code
def yX11_copy : MethodName := ⟨RX11, "copy", "(IIIII)I"⟩
abbrev cX11_sleepersBy : ByteArray := prog_1_method_37_code
def yX11_sleepersBy : MethodName := ⟨RX11, "sleepersBy", "(IIII)I"⟩
abbrev cX11_taken : ByteArray := prog_1_method_38_code
def yX11_taken : MethodName := ⟨RX11, "taken", "(II)I"⟩
abbrev cX11_within : ByteArray := prog_1_method_39_code
def yX11_within : MethodName := ⟨RX11, "within", "(II)Z"⟩
abbrev cX11_has : ByteArray := prog_1_method_40_code
def yX11_has : MethodName := ⟨RX11, "has", "(II)Z"⟩
abbrev cX11_isCell : ByteArray := prog_1_method_41_code
def yX11_isCell : MethodName := ⟨RX11, "isCell", "(I)Z"⟩
abbrev cX11_isSheet : ByteArray := prog_1_method_42_code
def yX11_isSheet : MethodName := ⟨RX11, "isSheet", "(I)Z"⟩
abbrev cX11_isSleeper : ByteArray := prog_1_method_43_code
def yX11_isSleeper : MethodName := ⟨RX11, "isSleeper", "(I)Z"⟩
abbrev cX11_isOfKind : ByteArray := prog_1_method_44_code
def yX11_isOfKind : MethodName := ⟨RX11, "isOfKind", "(LDreamWindows$Kind;I)Z"⟩
abbrev cX11_inThought : ByteArray := prog_1_method_45_code
def yX11_inThought : MethodName := ⟨RX11, "inThought", "(I)LDreamWindows$Pane;"⟩
abbrev cX11_worthCleaning : ByteArray := prog_1_method_46_code
def yX11_worthCleaning : MethodName := ⟨RX11, "worthCleaning", "(I)I"⟩
abbrev cX11_cheapest : ByteArray := prog_1_method_47_code
def yX11_cheapest : MethodName := ⟨RX11, "cheapest", "(I)I"⟩
abbrev cX11_leastBeside : ByteArray := prog_1_method_48_code
def yX11_leastBeside : MethodName := ⟨RX11, "leastBeside", "(I)I"⟩
abbrev cX11_isOftenEnough : ByteArray := prog_1_method_49_code
def yX11_isOftenEnough : MethodName := ⟨RX11, "isOftenEnough", "(II)Z"⟩
abbrev cX11_isTorn : ByteArray := prog_1_method_50_code
def yX11_isTorn : MethodName := ⟨RX11, "isTorn", "(LDreamWindows$Pane;ILDreamWindows$Pane;III)Z"⟩
abbrev cX11_refusalOf : ByteArray := prog_1_method_51_code
def yX11_refusalOf : MethodName := ⟨RX11, "refusalOf", "(II)I"⟩
abbrev cX11_firstOtherwise : ByteArray := prog_1_method_52_code
def yX11_firstOtherwise : MethodName := ⟨RX11, "firstOtherwise", "(LDreamWindows$Sheet;LDreamWindows$Pane;LDreamWindows$Text;)I"⟩
abbrev cX11_isRightElsewhere : ByteArray := prog_1_method_53_code
def yX11_isRightElsewhere : MethodName := ⟨RX11, "isRightElsewhere", "(LDreamWindows$Sheet;II)Z"⟩
abbrev cX11_isRightAt : ByteArray := prog_1_method_54_code
def yX11_isRightAt : MethodName := ⟨RX11, "isRightAt", "(LDreamWindows$Sheet;LDreamWindows$Pane;I)Z"⟩
abbrev cX11_seenBehindFlies : ByteArray := prog_1_method_55_code
def yX11_seenBehindFlies : MethodName := ⟨RX11, "seenBehindFlies", "(II)I"⟩
def RX12 : String := "DreamWindowsModel"
def TX12 : u_T := fun k => match k with
  | 0 => ("DreamWindowsModel", "sleepers", "I", false)
  | 1 => ("DreamWindowsModel", "kind", "[I", true)
  | 2 => ("DreamWindowsModel", "moreOf", "[I", true)
  | 3 => ("DreamWindowsModel", "dull", "[I", true)
  | 4 => ("DreamWindowsModel", "picture", "[I", true)
  | 5 => ("DreamWindowsModel", "night", "I", false)
  | 6 => ("DreamWindowsModel", "minutes", "I", false)
  | 7 => ("DreamWindowsModel", "tape", "[I", true)
  | 8 => ("DreamWindowsModel", "taped", "I", false)
  | 9 => ("DreamWindowsModel", "codes", "[I", true)
  | 10 => ("DreamWindowsModel", "starts", "[I", true)
  | 11 => ("DreamWindowsModel", "texts", "I", false)
  | 12 => ("DreamWindowsModel", "rule", "I", false)
  | 13 => ("DreamWindowsModel", "hasImage", "Z", false)
  | 14 => ("DreamWindowsModel", "imageDull", "[I", true)
  | 15 => ("DreamWindowsModel", "imagePicture", "[I", true)
  | 16 => ("DreamWindowsModel", "imageHeld", "[I", true)
  | 17 => ("DreamWindowsModel", "sheetSort", "[I", true)
  | 18 => ("DreamWindowsModel", "sheetSize", "[I", true)
  | 19 => ("DreamWindowsModel", "cells", "[I", true)
  | 20 => ("DreamWindowsModel", "law", "[I", true)
  | 21 => ("DreamWindowsModel", "at", "I", false)
  | 22 => ("DreamWindowsModel", "begun", "I", false)
  | 23 => ("DreamWindowsModel", "token", "I", false)
  | 24 => ("DreamWindowsModel", "value", "I", false)
  | 25 => ("DreamWindowsModel", "words", "[I", true)
  | 26 => ("DreamWindowsModel", "held", "[I", true)
  | 27 => ("DreamWindowsModel", "heldMany", "I", false)
  | 28 => ("DreamWindowsModel", "opens", "I", false)
  | 29 => ("DreamWindowsModel", "out", "I", false)
  | 30 => ("DreamWindowsModel", "stack", "[I", true)
  | 31 => ("DreamWindowsModel", "named", "[I", true)
  | 32 => ("DreamWindowsModel", "row", "[I", true)
  | 33 => ("DreamWindowsModel", "nightNow", "I", false)
  | 34 => ("DreamWindowsModel", "bestSet", "I", false)
  | 35 => ("DreamWindowsModel", "bestMany", "I", false)
  | 36 => ("DreamWindowsModel", "bestCost", "I", false)
  | 37 => ("DreamWindowsModel", "cost", "[I", true)
  | 38 => ("DreamWindowsModel", "wayTo", "[I", true)
  | 39 => ("DreamWindowsModel", "seenBehind", "[I", true)
  | _ => ("DreamWindowsModel", "kept", "[I", true)
def tyX12 : Nat → FieldType := fun k => match k with
  | 0 => .int
  | 1 => .array .int
  | 2 => .array .int
  | 3 => .array .int
  | 4 => .array .int
  | 5 => .int
  | 6 => .int
  | 7 => .array .int
  | 8 => .int
  | 9 => .array .int
  | 10 => .array .int
  | 11 => .int
  | 12 => .int
  | 13 => .boolean
  | 14 => .array .int
  | 15 => .array .int
  | 16 => .array .int
  | 17 => .array .int
  | 18 => .array .int
  | 19 => .array .int
  | 20 => .array .int
  | 21 => .int
  | 22 => .int
  | 23 => .int
  | 24 => .int
  | 25 => .array .int
  | 26 => .array .int
  | 27 => .int
  | 28 => .int
  | 29 => .int
  | 30 => .array .int
  | 31 => .array .int
  | 32 => .array .int
  | 33 => .int
  | 34 => .int
  | 35 => .int
  | 36 => .int
  | 37 => .array .int
  | 38 => .array .int
  | 39 => .array .int
  | _ => .array .int
theorem nmX12 : ∀ a, a < 41 → ∀ b, b < 41 → a ≠ b → (TX12 a).2.1 ≠ (TX12 b).2.1 := by decide +kernel
theorem tyX12_ok : ∀ k, k < 41 → parseFieldDescriptor (TX12 k).2.2.1 = some (tyX12 k) := by decide +kernel
abbrev cX12_init : ByteArray := prog_14_method_1_code
def yX12_init : MethodName := ⟨RX12, "<init>", "()V"⟩
abbrev cX12_in : ByteArray := prog_14_method_3_code
def yX12_in : MethodName := ⟨RX12, "in", "(III)Z"⟩
abbrev cX12_within : ByteArray := prog_14_method_4_code
def yX12_within : MethodName := ⟨RX12, "within", "(III)I"⟩
abbrev cX12_isSleeper : ByteArray := prog_14_method_5_code
def yX12_isSleeper : MethodName := ⟨RX12, "isSleeper", "(I)Z"⟩
abbrev cX12_isCell : ByteArray := prog_14_method_6_code
def yX12_isCell : MethodName := ⟨RX12, "isCell", "(I)Z"⟩
abbrev cX12_isCorner : ByteArray := prog_14_method_7_code
def yX12_isCorner : MethodName := ⟨RX12, "isCorner", "(I)Z"⟩
abbrev cX12_isMiddle : ByteArray := prog_14_method_8_code
def yX12_isMiddle : MethodName := ⟨RX12, "isMiddle", "(I)Z"⟩
abbrev cX12_ones : ByteArray := prog_14_method_9_code
def yX12_ones : MethodName := ⟨RX12, "ones", "(I)I"⟩
abbrev cX12_count : ByteArray := prog_14_method_10_code
def yX12_count : MethodName := ⟨RX12, "count", "(I)I"⟩
abbrev cX12_hours : ByteArray := prog_14_method_11_code
def yX12_hours : MethodName := ⟨RX12, "hours", "(I)I"⟩
abbrev cX12_isByte : ByteArray := prog_14_method_12_code
def yX12_isByte : MethodName := ⟨RX12, "isByte", "(I)Z"⟩
abbrev cX12_feed : ByteArray := prog_14_method_13_code
def yX12_feed : MethodName := ⟨RX12, "feed", "(IIIIII)I"⟩
abbrev cX12_wordFrom : ByteArray := prog_14_method_14_code
def yX12_wordFrom : MethodName := ⟨RX12, "wordFrom", "(II)I"⟩
abbrev cX12_next : ByteArray := prog_14_method_15_code
def yX12_next : MethodName := ⟨RX12, "next", "()V"⟩
abbrev cX12_rank : ByteArray := prog_14_method_16_code
def yX12_rank : MethodName := ⟨RX12, "rank", "(I)I"⟩
abbrev cX12_puts : ByteArray := prog_14_method_17_code
def yX12_puts : MethodName := ⟨RX12, "puts", "(I)V"⟩
abbrev cX12_unwinds : ByteArray := prog_14_method_18_code
def yX12_unwinds : MethodName := ⟨RX12, "unwinds", "(I)V"⟩
abbrev cX12_holds : ByteArray := prog_14_method_19_code
def yX12_holds : MethodName := ⟨RX12, "holds", "(I)V"⟩
abbrev cX12_opensOne : ByteArray := prog_14_method_20_code
def yX12_opensOne : MethodName := ⟨RX12, "opensOne", "(I)Z"⟩
abbrev cX12_between : ByteArray := prog_14_method_21_code
def yX12_between : MethodName := ⟨RX12, "between", "(I)Z"⟩
abbrev cX12_signOf : ByteArray := prog_14_method_22_code
def yX12_signOf : MethodName := ⟨RX12, "signOf", "()I"⟩
abbrev cX12_eRead : ByteArray := prog_14_method_23_code
def yX12_eRead : MethodName := ⟨RX12, "eRead", "()Z"⟩
abbrev cX12_text : ByteArray := prog_14_method_24_code
def yX12_text : MethodName := ⟨RX12, "text", "()I"⟩
abbrev cX12_two : ByteArray := prog_14_method_25_code
def yX12_two : MethodName := ⟨RX12, "two", "(III)I"⟩
abbrev cX12_says : ByteArray := prog_14_method_26_code
def yX12_says : MethodName := ⟨RX12, "says", "(I)I"⟩
abbrev cX12_force : ByteArray := prog_14_method_27_code
def yX12_force : MethodName := ⟨RX12, "force", "(I)I"⟩
abbrev cX12_asksOf : ByteArray := prog_14_method_28_code
def yX12_asksOf : MethodName := ⟨RX12, "asksOf", "(IIIII)I"⟩
abbrev cX12_asks : ByteArray := prog_14_method_29_code
def yX12_asks : MethodName := ⟨RX12, "asks", "(III)I"⟩
abbrev cX12_sleeper : ByteArray := prog_14_method_30_code
def yX12_sleeper : MethodName := ⟨RX12, "sleeper", "(III)I"⟩
abbrev cX12_put : ByteArray := prog_14_method_31_code
def yX12_put : MethodName := ⟨RX12, "put", "(III)I"⟩
abbrev cX12_dullAll : ByteArray := prog_14_method_32_code
def yX12_dullAll : MethodName := ⟨RX12, "dullAll", "(I)I"⟩
abbrev cX12_told : ByteArray := prog_14_method_33_code
def yX12_told : MethodName := ⟨RX12, "told", "(II)I"⟩
abbrev cX12_dullerOf : ByteArray := prog_14_method_34_code
def yX12_dullerOf : MethodName := ⟨RX12, "dullerOf", "(IIII)I"⟩
abbrev cX12_isClear : ByteArray := prog_14_method_35_code
def yX12_isClear : MethodName := ⟨RX12, "isClear", "(IIII)Z"⟩
abbrev cX12_costOf : ByteArray := prog_14_method_36_code
def yX12_costOf : MethodName := ⟨RX12, "costOf", "(II)I"⟩
abbrev cX12_clearSet : ByteArray := prog_14_method_37_code
def yX12_clearSet : MethodName := ⟨RX12, "clearSet", "(I)I"⟩
abbrev cX12_seenSet : ByteArray := prog_14_method_38_code
def yX12_seenSet : MethodName := ⟨RX12, "seenSet", "(I)I"⟩
abbrev cX12_costAll : ByteArray := prog_14_method_39_code
def yX12_costAll : MethodName := ⟨RX12, "costAll", "(I)I"⟩
abbrev cX12_view : ByteArray := prog_14_method_40_code
def yX12_view : MethodName := ⟨RX12, "view", "(II)I"⟩
abbrev cX12_seenMany : ByteArray := prog_14_method_41_code
def yX12_seenMany : MethodName := ⟨RX12, "seenMany", "()I"⟩
abbrev cX12_all : ByteArray := prog_14_method_42_code
def yX12_all : MethodName := ⟨RX12, "all", "(I)I"⟩
abbrev cX12_sleep : ByteArray := prog_14_method_43_code
def yX12_sleep : MethodName := ⟨RX12, "sleep", "()I"⟩
abbrev cX12_rowOf : ByteArray := prog_14_method_44_code
def yX12_rowOf : MethodName := ⟨RX12, "rowOf", "(I)V"⟩
abbrev cX12_rowNight : ByteArray := prog_14_method_45_code
def yX12_rowNight : MethodName := ⟨RX12, "rowNight", "(I)V"⟩
abbrev cX12_rowClear : ByteArray := prog_14_method_46_code
def yX12_rowClear : MethodName := ⟨RX12, "rowClear", "(I)I"⟩
abbrev cX12_clean : ByteArray := prog_14_method_47_code
def yX12_clean : MethodName := ⟨RX12, "clean", "(II)I"⟩
abbrev cX12_run : ByteArray := prog_14_method_48_code
def yX12_run : MethodName := ⟨RX12, "run", "(III)I"⟩
abbrev cX12_blind : ByteArray := prog_14_method_49_code
def yX12_blind : MethodName := ⟨RX12, "blind", "(I)I"⟩
abbrev cX12_couldSet : ByteArray := prog_14_method_50_code
def yX12_couldSet : MethodName := ⟨RX12, "couldSet", "(I)I"⟩
abbrev cX12_finds : ByteArray := prog_14_method_51_code
def yX12_finds : MethodName := ⟨RX12, "finds", "(I)V"⟩
abbrev cX12_best : ByteArray := prog_14_method_52_code
def yX12_best : MethodName := ⟨RX12, "best", "(II)I"⟩
abbrev cX12_whom : ByteArray := prog_14_method_53_code
def yX12_whom : MethodName := ⟨RX12, "whom", "(I)I"⟩
abbrev cX12_show : ByteArray := prog_14_method_54_code
def yX12_show : MethodName := ⟨RX12, "show", "(II)I"⟩
abbrev cX12_relaxes : ByteArray := prog_14_method_55_code
def yX12_relaxes : MethodName := ⟨RX12, "relaxes", "(II)Z"⟩
abbrev cX12_way : ByteArray := prog_14_method_56_code
def yX12_way : MethodName := ⟨RX12, "way", "(II)I"⟩
abbrev cX12_isOftenEnough : ByteArray := prog_14_method_57_code
def yX12_isOftenEnough : MethodName := ⟨RX12, "isOftenEnough", "(II)Z"⟩
abbrev cX12_often : ByteArray := prog_14_method_58_code
def yX12_often : MethodName := ⟨RX12, "often", "(I)I"⟩
abbrev cX12_isLike : ByteArray := prog_14_method_59_code
def yX12_isLike : MethodName := ⟨RX12, "isLike", "(IIIIII)Z"⟩
abbrev cX12_joins : ByteArray := prog_14_method_60_code
def yX12_joins : MethodName := ⟨RX12, "joins", "(II)I"⟩
abbrev cX12_toldWrong : ByteArray := prog_14_method_61_code
def yX12_toldWrong : MethodName := ⟨RX12, "toldWrong", "(II)I"⟩
abbrev cX12_unlike : ByteArray := prog_14_method_62_code
def yX12_unlike : MethodName := ⟨RX12, "unlike", "(II)I"⟩
abbrev cX12_judge : ByteArray := prog_14_method_63_code
def yX12_judge : MethodName := ⟨RX12, "judge", "(II)I"⟩
abbrev cX12_kinds : ByteArray := prog_14_method_64_code
def yX12_kinds : MethodName := ⟨RX12, "kinds", "(III)I"⟩
abbrev cX12_isSoDull : ByteArray := prog_14_method_65_code
def yX12_isSoDull : MethodName := ⟨RX12, "isSoDull", "(IIII)Z"⟩
abbrev cX12_dims : ByteArray := prog_14_method_66_code
def yX12_dims : MethodName := ⟨RX12, "dims", "(III)I"⟩
abbrev cX12_laws : ByteArray := prog_14_method_67_code
def yX12_laws : MethodName := ⟨RX12, "laws", "(II)I"⟩
abbrev cX12_guess : ByteArray := prog_14_method_68_code
def yX12_guess : MethodName := ⟨RX12, "guess", "(III)I"⟩
abbrev cX12_film : ByteArray := prog_14_method_69_code
def yX12_film : MethodName := ⟨RX12, "film", "(III)I"⟩
abbrev cX12_seenBy : ByteArray := prog_14_method_70_code
def yX12_seenBy : MethodName := ⟨RX12, "seenBy", "(II)I"⟩
abbrev cX12_drawn : ByteArray := prog_14_method_71_code
def yX12_drawn : MethodName := ⟨RX12, "drawn", "(II)I"⟩
abbrev cX12_lowest : ByteArray := prog_14_method_72_code
def yX12_lowest : MethodName := ⟨RX12, "lowest", "(JJI)J"⟩
abbrev cX12_odds : ByteArray := prog_14_method_73_code
def yX12_odds : MethodName := ⟨RX12, "odds", "(IIIII)J"⟩
abbrev cX12_image : ByteArray := prog_14_method_74_code
def yX12_image : MethodName := ⟨RX12, "image", "()I"⟩
abbrev cX12_back : ByteArray := prog_14_method_75_code
def yX12_back : MethodName := ⟨RX12, "back", "()I"⟩
abbrev cX12_sheet : ByteArray := prog_14_method_76_code
def yX12_sheet : MethodName := ⟨RX12, "sheet", "(III)I"⟩
abbrev cX12_cell : ByteArray := prog_14_method_77_code
def yX12_cell : MethodName := ⟨RX12, "cell", "(III)I"⟩
abbrev cX12_copy : ByteArray := prog_14_method_78_code
def yX12_copy : MethodName := ⟨RX12, "copy", "(IIIII)I"⟩
abbrev cX12_sleepersBy : ByteArray := prog_14_method_79_code
def yX12_sleepersBy : MethodName := ⟨RX12, "sleepersBy", "(IIII)I"⟩
abbrev cX12_isUnder : ByteArray := prog_14_method_80_code
def yX12_isUnder : MethodName := ⟨RX12, "isUnder", "(II)Z"⟩
abbrev cX12_taken : ByteArray := prog_14_method_81_code
def yX12_taken : MethodName := ⟨RX12, "taken", "(II)I"⟩
def RJx145de : String := "java/io/Serializable"
def TJx145de : u_T := fun k => match k with
  | _ => ("", "", "", false)
def tyJx145de : Nat → FieldType := fun k => match k with
  | _ => .int
theorem nmJx145de : ∀ a, a < 0 → ∀ b, b < 0 → a ≠ b → (TJx145de a).2.1 ≠ (TJx145de b).2.1 := by decide +kernel
theorem tyJx145de_ok : ∀ k, k < 0 → parseFieldDescriptor (TJx145de k).2.2.1 = some (tyJx145de k) := by decide +kernel
def RJx9f9b0 : String := "java/lang/CharSequence"
def TJx9f9b0 : u_T := fun k => match k with
  | _ => ("", "", "", false)
def tyJx9f9b0 : Nat → FieldType := fun k => match k with
  | _ => .int
theorem nmJx9f9b0 : ∀ a, a < 0 → ∀ b, b < 0 → a ≠ b → (TJx9f9b0 a).2.1 ≠ (TJx9f9b0 b).2.1 := by decide +kernel
theorem tyJx9f9b0_ok : ∀ k, k < 0 → parseFieldDescriptor (TJx9f9b0 k).2.2.1 = some (tyJx9f9b0 k) := by decide +kernel
def RJx8e188 : String := "java/lang/Cloneable"
def TJx8e188 : u_T := fun k => match k with
  | _ => ("", "", "", false)
def tyJx8e188 : Nat → FieldType := fun k => match k with
  | _ => .int
theorem nmJx8e188 : ∀ a, a < 0 → ∀ b, b < 0 → a ≠ b → (TJx8e188 a).2.1 ≠ (TJx8e188 b).2.1 := by decide +kernel
theorem tyJx8e188_ok : ∀ k, k < 0 → parseFieldDescriptor (TJx8e188 k).2.2.1 = some (tyJx8e188 k) := by decide +kernel
def RJxb160c : String := "java/lang/Comparable"
def TJxb160c : u_T := fun k => match k with
  | _ => ("", "", "", false)
def tyJxb160c : Nat → FieldType := fun k => match k with
  | _ => .int
theorem nmJxb160c : ∀ a, a < 0 → ∀ b, b < 0 → a ≠ b → (TJxb160c a).2.1 ≠ (TJxb160c b).2.1 := by decide +kernel
theorem tyJxb160c_ok : ∀ k, k < 0 → parseFieldDescriptor (TJxb160c k).2.2.1 = some (tyJxb160c k) := by decide +kernel
def RJ6 : String := "java/lang/Integer"
def TJ6 : u_T := fun k => match k with
  | _ => ("", "", "", false)
def tyJ6 : Nat → FieldType := fun k => match k with
  | _ => .int
theorem nmJ6 : ∀ a, a < 0 → ∀ b, b < 0 → a ≠ b → (TJ6 a).2.1 ≠ (TJ6 b).2.1 := by decide +kernel
theorem tyJ6_ok : ∀ k, k < 0 → parseFieldDescriptor (TJ6 k).2.2.1 = some (tyJ6 k) := by decide +kernel
abbrev cJ6_bitCount_0f7a4 : ByteArray := prog_16_method_49_code
def yJ6_bitCount_0f7a4 : MethodName := ⟨RJ6, "bitCount", "(I)I"⟩
def RJ9 : String := "java/lang/Math"
def TJ9 : u_T := fun k => match k with
  | _ => ("", "", "", false)
def tyJ9 : Nat → FieldType := fun k => match k with
  | _ => .int
theorem nmJ9 : ∀ a, a < 0 → ∀ b, b < 0 → a ≠ b → (TJ9 a).2.1 ≠ (TJ9 b).2.1 := by decide +kernel
theorem tyJ9_ok : ∀ k, k < 0 → parseFieldDescriptor (TJ9 k).2.2.1 = some (tyJ9 k) := by decide +kernel
abbrev cJ9_max_7cf53 : ByteArray := prog_17_method_65_code
def yJ9_max_7cf53 : MethodName := ⟨RJ9, "max", "(II)I"⟩
abbrev cJ9_min_7cf53 : ByteArray := prog_17_method_69_code
def yJ9_min_7cf53 : MethodName := ⟨RJ9, "min", "(II)I"⟩
def RJ0 : String := "java/lang/String"
def TJ0 : u_T := fun k => match k with
  | _ => ("", "", "", false)
def tyJ0 : Nat → FieldType := fun k => match k with
  | _ => .int
theorem nmJ0 : ∀ a, a < 0 → ∀ b, b < 0 → a ≠ b → (TJ0 a).2.1 ≠ (TJ0 b).2.1 := by decide +kernel
theorem tyJ0_ok : ∀ k, k < 0 → parseFieldDescriptor (TJ0 k).2.2.1 = some (tyJ0 k) := by decide +kernel
abbrev cJ0_length_8abf5 : ByteArray := prog_18_method_54_code
def yJ0_length_8abf5 : MethodName := ⟨RJ0, "length", "()I"⟩
abbrev cJ0_charAt_5068e : ByteArray := prog_18_method_56_code
def yJ0_charAt_5068e : MethodName := ⟨RJ0, "charAt", "(I)C"⟩
abbrev cJ0_coder_7d493 : ByteArray := prog_18_method_152_code
def yJ0_coder_7d493 : MethodName := ⟨RJ0, "coder", "()B"⟩
abbrev cJ0_isLatin1_aae02 : ByteArray := prog_18_method_154_code
def yJ0_isLatin1_aae02 : MethodName := ⟨RJ0, "isLatin1", "()Z"⟩
abbrev cJ0_checkIndex_df160 : ByteArray := prog_18_method_155_code
def yJ0_checkIndex_df160 : MethodName := ⟨RJ0, "checkIndex", "(II)V"⟩
def RJ1 : String := "java/lang/StringLatin1"
def TJ1 : u_T := fun k => match k with
  | _ => ("", "", "", false)
def tyJ1 : Nat → FieldType := fun k => match k with
  | _ => .int
theorem nmJ1 : ∀ a, a < 0 → ∀ b, b < 0 → a ≠ b → (TJ1 a).2.1 ≠ (TJ1 b).2.1 := by decide +kernel
theorem tyJ1_ok : ∀ k, k < 0 → parseFieldDescriptor (TJ1 k).2.2.1 = some (tyJ1 k) := by decide +kernel
abbrev cJ1_charAt_3b067 : ByteArray := prog_19_method_2_code
def yJ1_charAt_3b067 : MethodName := ⟨RJ1, "charAt", "([BI)C"⟩
def RJ2 : String := "java/lang/StringUTF16"
def TJ2 : u_T := fun k => match k with
  | _ => ("", "", "", false)
def tyJ2 : Nat → FieldType := fun k => match k with
  | _ => .int
theorem nmJ2 : ∀ a, a < 0 → ∀ b, b < 0 → a ≠ b → (TJ2 a).2.1 ≠ (TJ2 b).2.1 := by decide +kernel
theorem tyJ2_ok : ∀ k, k < 0 → parseFieldDescriptor (TJ2 k).2.2.1 = some (tyJ2 k) := by decide +kernel
abbrev cJ2_getChar_3b067 : ByteArray := prog_20_method_5_code
def yJ2_getChar_3b067 : MethodName := ⟨RJ2, "getChar", "([BI)C"⟩
abbrev cJ2_length_9d52b : ByteArray := prog_20_method_6_code
def yJ2_length_9d52b : MethodName := ⟨RJ2, "length", "([B)I"⟩
abbrev cJ2_charAt_3b067 : ByteArray := prog_20_method_83_code
def yJ2_charAt_3b067 : MethodName := ⟨RJ2, "charAt", "([BI)C"⟩
abbrev cJ2_checkIndex_2214a : ByteArray := prog_20_method_91_code
def yJ2_checkIndex_2214a : MethodName := ⟨RJ2, "checkIndex", "(I[B)V"⟩
def RJ10 : String := "java/lang/System"
def TJ10 : u_T := fun k => match k with
  | _ => ("", "", "", false)
def tyJ10 : Nat → FieldType := fun k => match k with
  | _ => .int
theorem nmJ10 : ∀ a, a < 0 → ∀ b, b < 0 → a ≠ b → (TJ10 a).2.1 ≠ (TJ10 b).2.1 := by decide +kernel
theorem tyJ10_ok : ∀ k, k < 0 → parseFieldDescriptor (TJ10 k).2.2.1 = some (tyJ10 k) := by decide +kernel
def RJxfd54e : String := "java/lang/constant/Constable"
def TJxfd54e : u_T := fun k => match k with
  | _ => ("", "", "", false)
def tyJxfd54e : Nat → FieldType := fun k => match k with
  | _ => .int
theorem nmJxfd54e : ∀ a, a < 0 → ∀ b, b < 0 → a ≠ b → (TJxfd54e a).2.1 ≠ (TJxfd54e b).2.1 := by decide +kernel
theorem tyJxfd54e_ok : ∀ k, k < 0 → parseFieldDescriptor (TJxfd54e k).2.2.1 = some (tyJxfd54e k) := by decide +kernel
def RJx3cf43 : String := "java/lang/constant/ConstantDesc"
def TJx3cf43 : u_T := fun k => match k with
  | _ => ("", "", "", false)
def tyJx3cf43 : Nat → FieldType := fun k => match k with
  | _ => .int
theorem nmJx3cf43 : ∀ a, a < 0 → ∀ b, b < 0 → a ≠ b → (TJx3cf43 a).2.1 ≠ (TJx3cf43 b).2.1 := by decide +kernel
theorem tyJx3cf43_ok : ∀ k, k < 0 → parseFieldDescriptor (TJx3cf43 k).2.2.1 = some (tyJx3cf43 k) := by decide +kernel
def RJ7 : String := "java/util/Arrays"
def TJ7 : u_T := fun k => match k with
  | _ => ("", "", "", false)
def tyJ7 : Nat → FieldType := fun k => match k with
  | _ => .int
theorem nmJ7 : ∀ a, a < 0 → ∀ b, b < 0 → a ≠ b → (TJ7 a).2.1 ≠ (TJ7 b).2.1 := by decide +kernel
theorem tyJ7_ok : ∀ k, k < 0 → parseFieldDescriptor (TJ7 k).2.2.1 = some (tyJ7 k) := by decide +kernel
abbrev cJ7_fill_53178 : ByteArray := prog_22_method_103_code
def yJ7_fill_53178 : MethodName := ⟨RJ7, "fill", "([II)V"⟩
abbrev cJ7_copyOf_59c91 : ByteArray := prog_22_method_123_code
def yJ7_copyOf_59c91 : MethodName := ⟨RJ7, "copyOf", "([II)[I"⟩
def RJ3 : String := "jdk/internal/util/Preconditions"
def TJ3 : u_T := fun k => match k with
  | _ => ("", "", "", false)
def tyJ3 : Nat → FieldType := fun k => match k with
  | _ => .int
theorem nmJ3 : ∀ a, a < 0 → ∀ b, b < 0 → a ≠ b → (TJ3 a).2.1 ≠ (TJ3 b).2.1 := by decide +kernel
theorem tyJ3_ok : ∀ k, k < 0 → parseFieldDescriptor (TJ3 k).2.2.1 = some (tyJ3 k) := by decide +kernel
abbrev cJ3_checkIndex_8e157 : ByteArray := prog_23_method_11_code
def yJ3_checkIndex_8e157 : MethodName := ⟨RJ3, "checkIndex", "(IILjava/util/function/BiFunction;)I"⟩
def RL : String := "DreamWindowsLaw"
abbrev cL_law : ByteArray := code
def yL_law : MethodName := ⟨RL, "law", "([I)Z"⟩
abbrev vwCl : List vw_C := [(RX0, TX0, 1), (RX1, TX1, 1), (RX2, TX2, 1), (RX3, TX3, 5), (RX4, TX4, 1), (RX5, TX5, 1), (RX6, TX6, 1), (RX7, TX7, 5), (RX8, TX8, 3), (RX9, TX9, 9), (RX10, TX10, 3), (RX11, TX11, 14), (RX12, TX12, 41)]
