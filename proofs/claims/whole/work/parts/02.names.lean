-- names of classes, fields, methods; the tables' words that a method may ask for
def R_Cell : String := "CellTests$Cell"
def T_Cell : u_T := fun k => match k with
  | 0 => ("CellTests$Cell", "warmth", "I", false)
  | 1 => ("CellTests$Cell", "steps", "I", false)
  | 2 => ("CellTests$Cell", "ampereSeconds", "J", false)
  | 3 => ("CellTests$Cell", "lastAmpere", "I", false)
  | 4 => ("CellTests$Cell", "lastStepVolt", "I", false)
  | 5 => ("CellTests$Cell", "voltChange", "I", false)
  | 6 => ("CellTests$Cell", "ampereChange", "I", false)
  | 7 => ("CellTests$Cell", "rests", "I", false)
  | 8 => ("CellTests$Cell", "firstDay", "I", false)
  | 9 => ("CellTests$Cell", "firstRestVolt", "I", false)
  | 10 => ("CellTests$Cell", "lastDay", "I", false)
  | _ => ("CellTests$Cell", "lastRestVolt", "I", false)
def ty_Cell : Nat → FieldType := fun k => match k with
  | 0 => .int
  | 1 => .int
  | 2 => .long
  | 3 => .int
  | 4 => .int
  | 5 => .int
  | 6 => .int
  | 7 => .int
  | 8 => .int
  | 9 => .int
  | 10 => .int
  | _ => .int
theorem nm_Cell : ∀ a, a < 12 → ∀ b, b < 12 → a ≠ b → (T_Cell a).2.1 ≠ (T_Cell b).2.1 := by decide +kernel
theorem tyok_Cell : ∀ k, k < 12 → parseFieldDescriptor (T_Cell k).2.2.1 = some (ty_Cell k) := by decide +kernel
def R_Fade : String := "CellTests$FadeRows"
def T_Fade : u_T := fun k => match k with
  | 0 => ("CellTests$FadeRows", "from", "[I", true)
  | 1 => ("CellTests$FadeRows", "thousandths", "[I", true)
  | _ => ("CellTests$FadeRows", "count", "I", false)
def ty_Fade : Nat → FieldType := fun k => match k with
  | 0 => .array .int
  | 1 => .array .int
  | _ => .int
theorem nm_Fade : ∀ a, a < 3 → ∀ b, b < 3 → a ≠ b → (T_Fade a).2.1 ≠ (T_Fade b).2.1 := by decide +kernel
theorem tyok_Fade : ∀ k, k < 3 → parseFieldDescriptor (T_Fade k).2.2.1 = some (ty_Fade k) := by decide +kernel
def R_Pack : String := "CellTests$Packer"
def T_Pack : u_T := fun k => match k with
  | 0 => ("CellTests$Packer", "found", "[I", true)
  | 1 => ("CellTests$Packer", "numbers", "[I", true)
  | 2 => ("CellTests$Packer", "charges", "[J", true)
  | 3 => ("CellTests$Packer", "choice", "[I", true)
  | 4 => ("CellTests$Packer", "count", "I", false)
  | 5 => ("CellTests$Packer", "inPack", "I", false)
  | 6 => ("CellTests$Packer", "packs", "I", false)
  | 7 => ("CellTests$Packer", "sizes", "[I", true)
  | 8 => ("CellTests$Packer", "least", "[J", true)
  | 9 => ("CellTests$Packer", "greatest", "[J", true)
  | _ => ("CellTests$Packer", "best", "J", false)
def ty_Pack : Nat → FieldType := fun k => match k with
  | 0 => .array .int
  | 1 => .array .int
  | 2 => .array .long
  | 3 => .array .int
  | 4 => .int
  | 5 => .int
  | 6 => .int
  | 7 => .array .int
  | 8 => .array .long
  | 9 => .array .long
  | _ => .long
theorem nm_Pack : ∀ a, a < 11 → ∀ b, b < 11 → a ≠ b → (T_Pack a).2.1 ≠ (T_Pack b).2.1 := by decide +kernel
theorem tyok_Pack : ∀ k, k < 11 → parseFieldDescriptor (T_Pack k).2.2.1 = some (ty_Pack k) := by decide +kernel
def R_Set : String := "CellTests$RuleSet"
def T_Set : u_T := fun k => match k with
  | 0 => ("CellTests$RuleSet", "classes", "[I", true)
  | 1 => ("CellTests$RuleSet", "clauseEnds", "[I", true)
  | 2 => ("CellTests$RuleSet", "sentences", "I", false)
  | 3 => ("CellTests$RuleSet", "letters", "[C", true)
  | 4 => ("CellTests$RuleSet", "lows", "[I", true)
  | 5 => ("CellTests$RuleSet", "highs", "[I", true)
  | _ => ("CellTests$RuleSet", "clauses", "I", false)
def ty_Set : Nat → FieldType := fun k => match k with
  | 0 => .array .int
  | 1 => .array .int
  | 2 => .int
  | 3 => .array .char
  | 4 => .array .int
  | 5 => .array .int
  | _ => .int
theorem nm_Set : ∀ a, a < 7 → ∀ b, b < 7 → a ≠ b → (T_Set a).2.1 ≠ (T_Set b).2.1 := by decide +kernel
theorem tyok_Set : ∀ k, k < 7 → parseFieldDescriptor (T_Set k).2.2.1 = some (ty_Set k) := by decide +kernel
def R_Text : String := "CellTests$RuleText"
def T_Text : u_T := fun k => match k with
  | 0 => ("CellTests$RuleText", "bytes", "[C", true)
  | 1 => ("CellTests$RuleText", "length", "I", false)
  | 2 => ("CellTests$RuleText", "due", "I", false)
  | 3 => ("CellTests$RuleText", "letter", "C", false)
  | _ => ("CellTests$RuleText", "low", "I", false)
def ty_Text : Nat → FieldType := fun k => match k with
  | 0 => .array .char
  | 1 => .int
  | 2 => .int
  | 3 => .char
  | _ => .int
theorem nm_Text : ∀ a, a < 5 → ∀ b, b < 5 → a ≠ b → (T_Text a).2.1 ≠ (T_Text b).2.1 := by decide +kernel
theorem tyok_Text : ∀ k, k < 5 → parseFieldDescriptor (T_Text k).2.2.1 = some (ty_Text k) := by decide +kernel
def R_Ct : String := "CellTests"
def T_Ct : u_T := fun k => match k with
  | 0 => ("CellTests", "cells", "[LCellTests$Cell;", true)
  | 1 => ("CellTests", "count", "I", false)
  | 2 => ("CellTests", "spanLow", "I", false)
  | 3 => ("CellTests", "spanHigh", "I", false)
  | 4 => ("CellTests", "text", "LCellTests$RuleText;", true)
  | 5 => ("CellTests", "told", "LCellTests$RuleSet;", false)
  | 6 => ("CellTests", "spare", "LCellTests$RuleSet;", false)
  | 7 => ("CellTests", "packer", "LCellTests$Packer;", true)
  | 8 => ("CellTests", "fading", "LCellTests$FadeRows;", true)
  | _ => ("CellTests", "line", "Ljava/lang/StringBuilder;", true)
def ty_Ct : Nat → FieldType := fun k => match k with
  | 0 => .array (.object "CellTests$Cell")
  | 1 => .int
  | 2 => .int
  | 3 => .int
  | 4 => .object "CellTests$RuleText"
  | 5 => .object "CellTests$RuleSet"
  | 6 => .object "CellTests$RuleSet"
  | 7 => .object "CellTests$Packer"
  | 8 => .object "CellTests$FadeRows"
  | _ => .object "java/lang/StringBuilder"
theorem nm_Ct : ∀ a, a < 10 → ∀ b, b < 10 → a ≠ b → (T_Ct a).2.1 ≠ (T_Ct b).2.1 := by decide +kernel
theorem tyok_Ct : ∀ k, k < 10 → parseFieldDescriptor (T_Ct k).2.2.1 = some (ty_Ct k) := by decide +kernel
def R_Md : String := "CellTestsModel"
def T_Md : u_T := fun k => match k with
  | 0 => ("CellTestsModel", "cells", "I", false)
  | 1 => ("CellTestsModel", "warmths", "[I", true)
  | 2 => ("CellTestsModel", "low", "I", false)
  | 3 => ("CellTestsModel", "high", "I", false)
  | 4 => ("CellTestsModel", "stepCounts", "[I", true)
  | 5 => ("CellTestsModel", "seconds", "[I", true)
  | 6 => ("CellTestsModel", "amperes", "[I", true)
  | 7 => ("CellTestsModel", "volts", "[I", true)
  | 8 => ("CellTestsModel", "restCounts", "[I", true)
  | 9 => ("CellTestsModel", "days", "[I", true)
  | 10 => ("CellTestsModel", "restVolts", "[I", true)
  | 11 => ("CellTestsModel", "text", "[I", true)
  | 12 => ("CellTestsModel", "size", "I", false)
  | 13 => ("CellTestsModel", "sentences", "I", false)
  | 14 => ("CellTestsModel", "classes", "[I", true)
  | 15 => ("CellTestsModel", "firstClause", "[I", true)
  | 16 => ("CellTestsModel", "clauses", "[I", true)
  | 17 => ("CellTestsModel", "newSentences", "I", false)
  | 18 => ("CellTestsModel", "newClasses", "[I", true)
  | 19 => ("CellTestsModel", "newFirst", "[I", true)
  | 20 => ("CellTestsModel", "newClauses", "[I", true)
  | 21 => ("CellTestsModel", "newCount", "I", false)
  | 22 => ("CellTestsModel", "packs", "[I", true)
  | 23 => ("CellTestsModel", "way", "[I", true)
  | 24 => ("CellTestsModel", "rows", "I", false)
  | 25 => ("CellTestsModel", "rowCycles", "[I", true)
  | 26 => ("CellTestsModel", "rowLosses", "[I", true)
  | 27 => ("CellTestsModel", "from", "I", false)
  | 28 => ("CellTestsModel", "end", "I", false)
  | 29 => ("CellTestsModel", "left", "I", false)
  | _ => ("CellTestsModel", "looked", "I", false)
def ty_Md : Nat → FieldType := fun k => match k with
  | 0 => .int
  | 1 => .array .int
  | 2 => .int
  | 3 => .int
  | 4 => .array .int
  | 5 => .array .int
  | 6 => .array .int
  | 7 => .array .int
  | 8 => .array .int
  | 9 => .array .int
  | 10 => .array .int
  | 11 => .array .int
  | 12 => .int
  | 13 => .int
  | 14 => .array .int
  | 15 => .array .int
  | 16 => .array .int
  | 17 => .int
  | 18 => .array .int
  | 19 => .array .int
  | 20 => .array .int
  | 21 => .int
  | 22 => .array .int
  | 23 => .array .int
  | 24 => .int
  | 25 => .array .int
  | 26 => .array .int
  | 27 => .int
  | 28 => .int
  | 29 => .int
  | _ => .int
theorem nm_Md : ∀ a, a < 31 → ∀ b, b < 31 → a ≠ b → (T_Md a).2.1 ≠ (T_Md b).2.1 := by decide +kernel
theorem tyok_Md : ∀ k, k < 31 → parseFieldDescriptor (T_Md k).2.2.1 = some (ty_Md k) := by decide +kernel
def R_Sb : String := "java/lang/StringBuilder"
def T_Sb : u_T := fun k => match k with
  | 0 => ("java/lang/AbstractStringBuilder", "value", "[B", false)
  | 1 => ("java/lang/AbstractStringBuilder", "coder", "B", false)
  | 2 => ("java/lang/AbstractStringBuilder", "maybeLatin1", "Z", false)
  | _ => ("java/lang/AbstractStringBuilder", "count", "I", false)
def ty_Sb : Nat → FieldType := fun k => match k with
  | 0 => .array .byte
  | 1 => .byte
  | 2 => .boolean
  | _ => .int
theorem nm_Sb : ∀ a, a < 4 → ∀ b, b < 4 → a ≠ b → (T_Sb a).2.1 ≠ (T_Sb b).2.1 := by decide +kernel
theorem tyok_Sb : ∀ k, k < 4 → parseFieldDescriptor (T_Sb k).2.2.1 = some (ty_Sb k) := by decide +kernel
def R_Asb : String := "java/lang/AbstractStringBuilder"
def R_JInteger : String := "java/lang/Integer"
def R_JMath : String := "java/lang/Math"
def R_JObject : String := "java/lang/Object"
def R_JString : String := "java/lang/String"
def R_JStringLatin1 : String := "java/lang/StringLatin1"
def R_JStringUTF16 : String := "java/lang/StringUTF16"
def R_JArrays : String := "java/util/Arrays"
def R_JArraysSupport : String := "jdk/internal/util/ArraysSupport"
def R_JPreconditions : String := "jdk/internal/util/Preconditions"
abbrev classes : List vw_C := [(R_Cell, T_Cell, 12), (R_Fade, T_Fade, 3), (R_Pack, T_Pack, 11), (R_Set, T_Set, 7), (R_Text, T_Text, 5), (R_Ct, T_Ct, 10), (R_Md, T_Md, 31), (R_Sb, T_Sb, 4)]
def cx_sel : Cond := .selects "java/lang/StringBuilder" ⟨"java/lang/AbstractStringBuilder", "ensureCapacityInternal", "(I)V"⟩ ⟨"java/lang/AbstractStringBuilder", "ensureCapacityInternal", "(I)V"⟩
def cx_tbl : List Cond := (lw_tbl ++ [cx_sel]).filter goodWord
def cx_nq : Cond → Bool
  | .fieldLinkNest .. => true
  | .methodLinkNest .. => true
  | _ => false
def cx_nws : List Cond := lw_tbl.filter cx_nq
theorem cx_inw {w : Cond} (i : Nat) (h : lw_tbl[i]? = some w) (g : goodWord w = true) : w ∈ cx_tbl := List.mem_filter.mpr ⟨List.mem_append_left _ (List.mem_of_getElem? h), g⟩
theorem cw_sel : cx_sel ∈ cx_tbl := List.mem_filter.mpr ⟨List.mem_append_right _ List.mem_cons_self, by decide +kernel⟩
theorem cx_inn {w : Cond} (i : Nat) (h : lw_tbl[i]? = some w) (g : cx_nq w = true) : w ∈ cx_nws := List.mem_filter.mpr ⟨List.mem_of_getElem? h, g⟩
theorem cx_good {w : Cond} (h : w ∈ cx_tbl) : GoodIn cx_tbl (w :: cx_tbl) := fun v hv => by
  rcases List.mem_cons.mp hv with e | hv
  · subst e; exact ⟨h, good_of_word (List.mem_filter.mp h).2⟩
  · exact ⟨hv, good_of_word (List.mem_filter.mp hv).2⟩
abbrev b_Ct_init : ByteArray := prog_1_method_1_code
def y_Ct_init : MethodName := ⟨R_Ct, "<init>", "()V"⟩
def ws_Ct_init : List Cond := .code y_Ct_init b_Ct_init 1 none :: cx_tbl
abbrev b_Text_init : ByteArray := prog_6_method_1_code
def y_Text_init : MethodName := ⟨R_Text, "<init>", "()V"⟩
def ws_Text_init : List Cond := .code y_Text_init b_Text_init 1 none :: cx_tbl
abbrev b_Set_init : ByteArray := prog_5_method_1_code
def y_Set_init : MethodName := ⟨R_Set, "<init>", "()V"⟩
def ws_Set_init : List Cond := .code y_Set_init b_Set_init 1 none :: cx_tbl
abbrev b_Pack_init : ByteArray := prog_4_method_1_code
def y_Pack_init : MethodName := ⟨R_Pack, "<init>", "()V"⟩
def ws_Pack_init : List Cond := .code y_Pack_init b_Pack_init 2 none :: cx_tbl
abbrev b_Fade_init : ByteArray := prog_3_method_1_code
def y_Fade_init : MethodName := ⟨R_Fade, "<init>", "()V"⟩
def ws_Fade_init : List Cond := .code y_Fade_init b_Fade_init 1 none :: cx_tbl
abbrev b_Sb_init : ByteArray := prog_14_method_1_code
def y_Sb_init : MethodName := ⟨R_Sb, "<init>", "()V"⟩
def ws_Sb_init : List Cond := .code y_Sb_init b_Sb_init 1 none :: cx_tbl
abbrev b_Asb_init : ByteArray := prog_9_method_2_code
def y_Asb_init : MethodName := ⟨R_Asb, "<init>", "(I)V"⟩
def ws_Asb_init : List Cond := .code y_Asb_init b_Asb_init 2 none :: cx_tbl
abbrev b_JStringUTF16_newBytesFor : ByteArray := prog_16_method_2_code
def y_JStringUTF16_newBytesFor : MethodName := ⟨R_JStringUTF16, "newBytesFor", "(I)[B"⟩
def ws_JStringUTF16_newBytesFor : List Cond := .code y_JStringUTF16_newBytesFor b_JStringUTF16_newBytesFor 1 (some (.array .byte)) :: cx_tbl
abbrev b_JStringUTF16_newBytesLength : ByteArray := prog_16_method_3_code
def y_JStringUTF16_newBytesLength : MethodName := ⟨R_JStringUTF16, "newBytesLength", "(I)I"⟩
def ws_JStringUTF16_newBytesLength : List Cond := .code y_JStringUTF16_newBytesLength b_JStringUTF16_newBytesLength 1 (some .int) :: cx_tbl
abbrev b_Ct_cell : ByteArray := prog_1_method_2_code
def y_Ct_cell : MethodName := ⟨R_Ct, "cell", "()I"⟩
def ws_Ct_cell : List Cond := .code y_Ct_cell b_Ct_cell 1 (some .int) :: cx_tbl
abbrev b_Cell_init : ByteArray := prog_2_method_1_code
def y_Cell_init : MethodName := ⟨R_Cell, "<init>", "()V"⟩
def ws_Cell_init : List Cond := .code y_Cell_init b_Cell_init 1 none :: cx_tbl
abbrev b_Ct_span : ByteArray := prog_1_method_3_code
def y_Ct_span : MethodName := ⟨R_Ct, "span", "(II)Z"⟩
def ws_Ct_span : List Cond := .code y_Ct_span b_Ct_span 3 (some .boolean) :: cx_tbl
abbrev b_Ct_warm : ByteArray := prog_1_method_4_code
def y_Ct_warm : MethodName := ⟨R_Ct, "warm", "(II)Z"⟩
def ws_Ct_warm : List Cond := .code y_Ct_warm b_Ct_warm 4 (some .boolean) :: cx_tbl
abbrev b_Ct_cellOf : ByteArray := prog_1_method_20_code
def y_Ct_cellOf : MethodName := ⟨R_Ct, "cellOf", "(I)LCellTests$Cell;"⟩
def ws_Ct_cellOf : List Cond := .code y_Ct_cellOf b_Ct_cellOf 2 (some (.object "CellTests$Cell")) :: cx_tbl
abbrev b_Ct_isWithin : ByteArray := prog_1_method_23_code
def y_Ct_isWithin : MethodName := ⟨R_Ct, "isWithin", "(JJJ)Z"⟩
def ws_Ct_isWithin : List Cond := .code y_Ct_isWithin b_Ct_isWithin 6 (some .boolean) :: cx_tbl
abbrev b_Ct_isInSpan : ByteArray := prog_1_method_21_code
def y_Ct_isInSpan : MethodName := ⟨R_Ct, "isInSpan", "(LCellTests$Cell;)Z"⟩
def ws_Ct_isInSpan : List Cond := .code y_Ct_isInSpan b_Ct_isInSpan 2 (some .boolean) :: cx_tbl
abbrev b_Ct_step : ByteArray := prog_1_method_5_code
def y_Ct_step : MethodName := ⟨R_Ct, "step", "(IIII)Z"⟩
def ws_Ct_step : List Cond := .code y_Ct_step b_Ct_step 6 (some .boolean) :: cx_tbl
abbrev b_Cell_addStep : ByteArray := prog_2_method_2_code
def y_Cell_addStep : MethodName := ⟨R_Cell, "addStep", "(III)Z"⟩
def ws_Cell_addStep : List Cond := .code y_Cell_addStep b_Cell_addStep 4 (some .boolean) :: cx_tbl
abbrev b_JMath_abs : ByteArray := prog_12_method_59_code
def y_JMath_abs : MethodName := ⟨R_JMath, "abs", "(I)I"⟩
def ws_JMath_abs : List Cond := .code y_JMath_abs b_JMath_abs 1 (some .int) :: cx_tbl
abbrev b_Ct_rest : ByteArray := prog_1_method_6_code
def y_Ct_rest : MethodName := ⟨R_Ct, "rest", "(III)Z"⟩
def ws_Ct_rest : List Cond := .code y_Ct_rest b_Ct_rest 5 (some .boolean) :: cx_tbl
abbrev b_Cell_addRest : ByteArray := prog_2_method_3_code
def y_Cell_addRest : MethodName := ⟨R_Cell, "addRest", "(II)Z"⟩
def ws_Cell_addRest : List Cond := .code y_Cell_addRest b_Cell_addRest 3 (some .boolean) :: cx_tbl
abbrev b_Ct_charge : ByteArray := prog_1_method_7_code
def y_Ct_charge : MethodName := ⟨R_Ct, "charge", "(I)J"⟩
def ws_Ct_charge : List Cond := .code y_Ct_charge b_Ct_charge 3 (some .long) :: cx_tbl
abbrev b_Cell_chargeNow : ByteArray := prog_2_method_4_code
def y_Cell_chargeNow : MethodName := ⟨R_Cell, "chargeNow", "()J"⟩
def ws_Cell_chargeNow : List Cond := .code y_Cell_chargeNow b_Cell_chargeNow 1 (some .long) :: cx_tbl
abbrev b_JMath_floorDiv : ByteArray := prog_12_method_49_code
def y_JMath_floorDiv : MethodName := ⟨R_JMath, "floorDiv", "(JJ)J"⟩
def ws_JMath_floorDiv : List Cond := .code y_JMath_floorDiv b_JMath_floorDiv 6 (some .long) :: cx_tbl
abbrev b_Ct_resistance : ByteArray := prog_1_method_8_code
def y_Ct_resistance : MethodName := ⟨R_Ct, "resistance", "(II)I"⟩
def ws_Ct_resistance : List Cond := .code y_Ct_resistance b_Ct_resistance 4 (some .int) :: cx_tbl
abbrev b_Cell_hasResistance : ByteArray := prog_2_method_5_code
def y_Cell_hasResistance : MethodName := ⟨R_Cell, "hasResistance", "()Z"⟩
def ws_Cell_hasResistance : List Cond := .code y_Cell_hasResistance b_Cell_hasResistance 1 (some .boolean) :: cx_tbl
abbrev b_Ct_partOf : ByteArray := prog_1_method_24_code
def y_Ct_partOf : MethodName := ⟨R_Ct, "partOf", "(III)I"⟩
def ws_Ct_partOf : List Cond := .code y_Ct_partOf b_Ct_partOf 4 (some .int) :: cx_tbl
abbrev b_Ct_commonDivisor : ByteArray := prog_1_method_25_code
def y_Ct_commonDivisor : MethodName := ⟨R_Ct, "commonDivisor", "(II)I"⟩
def ws_Ct_commonDivisor : List Cond := .code y_Ct_commonDivisor b_Ct_commonDivisor 6 (some .int) :: cx_tbl
abbrev b_Ct_loss : ByteArray := prog_1_method_9_code
def y_Ct_loss : MethodName := ⟨R_Ct, "loss", "(II)I"⟩
def ws_Ct_loss : List Cond := .code y_Ct_loss b_Ct_loss 4 (some .int) :: cx_tbl
abbrev b_Cell_hasLoss : ByteArray := prog_2_method_6_code
def y_Cell_hasLoss : MethodName := ⟨R_Cell, "hasLoss", "()Z"⟩
def ws_Cell_hasLoss : List Cond := .code y_Cell_hasLoss b_Cell_hasLoss 1 (some .boolean) :: cx_tbl
abbrev b_Cell_voltLost : ByteArray := prog_2_method_7_code
def y_Cell_voltLost : MethodName := ⟨R_Cell, "voltLost", "()I"⟩
def ws_Cell_voltLost : List Cond := .code y_Cell_voltLost b_Cell_voltLost 1 (some .int) :: cx_tbl
abbrev b_JMath_max1 : ByteArray := prog_12_method_65_code
def y_JMath_max1 : MethodName := ⟨R_JMath, "max", "(II)I"⟩
def ws_JMath_max1 : List Cond := .code y_JMath_max1 b_JMath_max1 2 (some .int) :: cx_tbl
abbrev b_Cell_daysBetween : ByteArray := prog_2_method_8_code
def y_Cell_daysBetween : MethodName := ⟨R_Cell, "daysBetween", "()I"⟩
def ws_Cell_daysBetween : List Cond := .code y_Cell_daysBetween b_Cell_daysBetween 1 (some .int) :: cx_tbl
abbrev b_Ct_unit : ByteArray := prog_1_method_10_code
def y_Ct_unit : MethodName := ⟨R_Ct, "unit", "(I)Z"⟩
def ws_Ct_unit : List Cond := .code y_Ct_unit b_Ct_unit 2 (some .boolean) :: cx_tbl
abbrev b_Text_add : ByteArray := prog_6_method_2_code
def y_Text_add : MethodName := ⟨R_Text, "add", "(C)Z"⟩
def ws_Text_add : List Cond := .code y_Text_add b_Text_add 2 (some .boolean) :: cx_tbl
abbrev b_Ct_rules : ByteArray := prog_1_method_11_code
def y_Ct_rules : MethodName := ⟨R_Ct, "rules", "()I"⟩
def ws_Ct_rules : List Cond := .code y_Ct_rules b_Ct_rules 3 (some .int) :: cx_tbl
abbrev b_Text_readInto : ByteArray := prog_6_method_4_code
def y_Text_readInto : MethodName := ⟨R_Text, "readInto", "(LCellTests$RuleSet;)I"⟩
def ws_Text_readInto : List Cond := .code y_Text_readInto b_Text_readInto 5 (some .int) :: cx_tbl
abbrev b_Set_clear : ByteArray := prog_5_method_2_code
def y_Set_clear : MethodName := ⟨R_Set, "clear", "()V"⟩
def ws_Set_clear : List Cond := .code y_Set_clear b_Set_clear 1 none :: cx_tbl
abbrev b_Text_isBlank : ByteArray := prog_6_method_5_code
def y_Text_isBlank : MethodName := ⟨R_Text, "isBlank", "(C)Z"⟩
def ws_Text_isBlank : List Cond := .code y_Text_isBlank b_Text_isBlank 1 (some .boolean) :: cx_tbl
abbrev b_Text_takeWord : ByteArray := prog_6_method_6_code
def y_Text_takeWord : MethodName := ⟨R_Text, "takeWord", "(LCellTests$RuleSet;II)Z"⟩
def ws_Text_takeWord : List Cond := .code y_Text_takeWord b_Text_takeWord 4 (some .boolean) :: cx_tbl
abbrev b_Text_takeClassWord : ByteArray := prog_6_method_7_code
def y_Text_takeClassWord : MethodName := ⟨R_Text, "takeClassWord", "(LCellTests$RuleSet;II)Z"⟩
def ws_Text_takeClassWord : List Cond := .code y_Text_takeClassWord b_Text_takeClassWord 4 (some .boolean) :: cx_tbl
abbrev b_Set_isFull : ByteArray := prog_5_method_3_code
def y_Set_isFull : MethodName := ⟨R_Set, "isFull", "()Z"⟩
def ws_Set_isFull : List Cond := .code y_Set_isFull b_Set_isFull 1 (some .boolean) :: cx_tbl
abbrev b_Text_isClassWord : ByteArray := prog_6_method_12_code
def y_Text_isClassWord : MethodName := ⟨R_Text, "isClassWord", "(II)Z"⟩
def ws_Text_isClassWord : List Cond := .code y_Text_isClassWord b_Text_isClassWord 4 (some .boolean) :: cx_tbl
abbrev b_JString_length : ByteArray := prog_13_method_54_code
def y_JString_length : MethodName := ⟨R_JString, "length", "()I"⟩
def ws_JString_length : List Cond := .code y_JString_length b_JString_length 1 (some .int) :: cx_tbl
abbrev b_JString_coder : ByteArray := prog_13_method_152_code
def y_JString_coder : MethodName := ⟨R_JString, "coder", "()B"⟩
def ws_JString_coder : List Cond := .code y_JString_coder b_JString_coder 1 (some .byte) :: cx_tbl
abbrev b_JString_charAt : ByteArray := prog_13_method_56_code
def y_JString_charAt : MethodName := ⟨R_JString, "charAt", "(I)C"⟩
def ws_JString_charAt : List Cond := .code y_JString_charAt b_JString_charAt 2 (some .char) :: cx_tbl
abbrev b_JString_isLatin1 : ByteArray := prog_13_method_154_code
def y_JString_isLatin1 : MethodName := ⟨R_JString, "isLatin1", "()Z"⟩
def ws_JString_isLatin1 : List Cond := .code y_JString_isLatin1 b_JString_isLatin1 1 (some .boolean) :: cx_tbl
abbrev b_JStringLatin1_charAt : ByteArray := prog_15_method_2_code
def y_JStringLatin1_charAt : MethodName := ⟨R_JStringLatin1, "charAt", "([BI)C"⟩
def ws_JStringLatin1_charAt : List Cond := .code y_JStringLatin1_charAt b_JStringLatin1_charAt 2 (some .char) :: cx_tbl
abbrev b_JString_checkIndex : ByteArray := prog_13_method_155_code
def y_JString_checkIndex : MethodName := ⟨R_JString, "checkIndex", "(II)V"⟩
def ws_JString_checkIndex : List Cond := .code y_JString_checkIndex b_JString_checkIndex 2 none :: cx_tbl
abbrev b_JPreconditions_checkIndex : ByteArray := prog_20_method_11_code
def y_JPreconditions_checkIndex : MethodName := ⟨R_JPreconditions, "checkIndex", "(IILjava/util/function/BiFunction;)I"⟩
def ws_JPreconditions_checkIndex : List Cond := .code y_JPreconditions_checkIndex b_JPreconditions_checkIndex 3 (some .int) :: cx_tbl
abbrev b_JStringUTF16_charAt : ByteArray := prog_16_method_83_code
def y_JStringUTF16_charAt : MethodName := ⟨R_JStringUTF16, "charAt", "([BI)C"⟩
def ws_JStringUTF16_charAt : List Cond := .code y_JStringUTF16_charAt b_JStringUTF16_charAt 2 (some .char) :: cx_tbl
abbrev b_JStringUTF16_checkIndex : ByteArray := prog_16_method_91_code
def y_JStringUTF16_checkIndex : MethodName := ⟨R_JStringUTF16, "checkIndex", "(I[B)V"⟩
def ws_JStringUTF16_checkIndex : List Cond := .code y_JStringUTF16_checkIndex b_JStringUTF16_checkIndex 2 none :: cx_tbl
abbrev b_JStringUTF16_length : ByteArray := prog_16_method_6_code
def y_JStringUTF16_length : MethodName := ⟨R_JStringUTF16, "length", "([B)I"⟩
def ws_JStringUTF16_length : List Cond := .code y_JStringUTF16_length b_JStringUTF16_length 1 (some .int) :: cx_tbl
abbrev b_JStringUTF16_getChar : ByteArray := prog_16_method_5_code
def y_JStringUTF16_getChar : MethodName := ⟨R_JStringUTF16, "getChar", "([BI)C"⟩
def ws_JStringUTF16_getChar : List Cond := .code y_JStringUTF16_getChar b_JStringUTF16_getChar 2 (some .char) :: cx_tbl
abbrev b_Text_numberIn : ByteArray := prog_6_method_13_code
def y_Text_numberIn : MethodName := ⟨R_Text, "numberIn", "(II)I"⟩
def ws_Text_numberIn : List Cond := .code y_Text_numberIn b_Text_numberIn 7 (some .int) :: cx_tbl
abbrev b_Text_takeClassNumber : ByteArray := prog_6_method_8_code
def y_Text_takeClassNumber : MethodName := ⟨R_Text, "takeClassNumber", "(LCellTests$RuleSet;I)Z"⟩
def ws_Text_takeClassNumber : List Cond := .code y_Text_takeClassNumber b_Text_takeClassNumber 3 (some .boolean) :: cx_tbl
abbrev b_Set_addSentence : ByteArray := prog_5_method_4_code
def y_Set_addSentence : MethodName := ⟨R_Set, "addSentence", "(I)Z"⟩
def ws_Set_addSentence : List Cond := .code y_Set_addSentence b_Set_addSentence 2 (some .boolean) :: cx_tbl
abbrev b_Text_takeLetter : ByteArray := prog_6_method_9_code
def y_Text_takeLetter : MethodName := ⟨R_Text, "takeLetter", "(II)Z"⟩
def ws_Text_takeLetter : List Cond := .code y_Text_takeLetter b_Text_takeLetter 4 (some .boolean) :: cx_tbl
abbrev b_Text_takeLow : ByteArray := prog_6_method_10_code
def y_Text_takeLow : MethodName := ⟨R_Text, "takeLow", "(I)Z"⟩
def ws_Text_takeLow : List Cond := .code y_Text_takeLow b_Text_takeLow 2 (some .boolean) :: cx_tbl
abbrev b_Text_takeHigh : ByteArray := prog_6_method_11_code
def y_Text_takeHigh : MethodName := ⟨R_Text, "takeHigh", "(LCellTests$RuleSet;I)Z"⟩
def ws_Text_takeHigh : List Cond := .code y_Text_takeHigh b_Text_takeHigh 3 (some .boolean) :: cx_tbl
abbrev b_Set_addClause : ByteArray := prog_5_method_5_code
def y_Set_addClause : MethodName := ⟨R_Set, "addClause", "(CII)Z"⟩
def ws_Set_addClause : List Cond := .code y_Set_addClause b_Set_addClause 4 (some .boolean) :: cx_tbl
abbrev b_Text_clear : ByteArray := prog_6_method_3_code
def y_Text_clear : MethodName := ⟨R_Text, "clear", "()V"⟩
def ws_Text_clear : List Cond := .code y_Text_clear b_Text_clear 1 none :: cx_tbl
abbrev b_Ct_cls : ByteArray := prog_1_method_12_code
def y_Ct_cls : MethodName := ⟨R_Ct, "cls", "(I)I"⟩
def ws_Ct_cls : List Cond := .code y_Ct_cls b_Ct_cls 2 (some .int) :: cx_tbl
abbrev b_Ct_classOf : ByteArray := prog_1_method_22_code
def y_Ct_classOf : MethodName := ⟨R_Ct, "classOf", "(LCellTests$Cell;)I"⟩
def ws_Ct_classOf : List Cond := .code y_Ct_classOf b_Ct_classOf 2 (some .int) :: cx_tbl
abbrev b_Cell_isOpen : ByteArray := prog_2_method_9_code
def y_Cell_isOpen : MethodName := ⟨R_Cell, "isOpen", "()Z"⟩
def ws_Cell_isOpen : List Cond := .code y_Cell_isOpen b_Cell_isOpen 1 (some .boolean) :: cx_tbl
abbrev b_Set_firstThatHolds : ByteArray := prog_5_method_6_code
def y_Set_firstThatHolds : MethodName := ⟨R_Set, "firstThatHolds", "(LCellTests$Cell;)I"⟩
def ws_Set_firstThatHolds : List Cond := .code y_Set_firstThatHolds b_Set_firstThatHolds 5 (some .int) :: cx_tbl
abbrev b_Set_allHold : ByteArray := prog_5_method_7_code
def y_Set_allHold : MethodName := ⟨R_Set, "allHold", "(LCellTests$Cell;II)Z"⟩
def ws_Set_allHold : List Cond := .code y_Set_allHold b_Set_allHold 5 (some .boolean) :: cx_tbl
abbrev b_Set_holds : ByteArray := prog_5_method_8_code
def y_Set_holds : MethodName := ⟨R_Set, "holds", "(LCellTests$Cell;I)Z"⟩
def ws_Set_holds : List Cond := .code y_Set_holds b_Set_holds 3 (some .boolean) :: cx_tbl
abbrev b_Ct_uns : ByteArray := prog_1_method_13_code
def y_Ct_uns : MethodName := ⟨R_Ct, "\x75nsafe", "(I)Z"⟩
def ws_Ct_uns : List Cond := .code y_Ct_uns b_Ct_uns 3 (some .boolean) :: cx_tbl
abbrev b_Cell_isUnsafe : ByteArray := prog_2_method_10_code
def y_Cell_isUnsafe : MethodName := ⟨R_Cell, "isUnsafe", "()Z"⟩
def ws_Cell_isUnsafe : List Cond := .code y_Cell_isUnsafe b_Cell_isUnsafe 3 (some .boolean) :: cx_tbl
abbrev b_Ct_may : ByteArray := prog_1_method_14_code
def y_Ct_may : MethodName := ⟨R_Ct, "may", "(II)Z"⟩
def ws_Ct_may : List Cond := .code y_Ct_may b_Ct_may 4 (some .boolean) :: cx_tbl
abbrev b_Ct_pack : ByteArray := prog_1_method_15_code
def y_Ct_pack : MethodName := ⟨R_Ct, "pack", "(II)J"⟩
def ws_Ct_pack : List Cond := .code y_Ct_pack b_Ct_pack 5 (some .long) :: cx_tbl
abbrev b_Pack_clear : ByteArray := prog_4_method_2_code
def y_Pack_clear : MethodName := ⟨R_Pack, "clear", "()V"⟩
def ws_Pack_clear : List Cond := .code y_Pack_clear b_Pack_clear 1 none :: cx_tbl
abbrev b_Pack_add : ByteArray := prog_4_method_3_code
def y_Pack_add : MethodName := ⟨R_Pack, "add", "(IJ)V"⟩
def ws_Pack_add : List Cond := .code y_Pack_add b_Pack_add 4 none :: cx_tbl
abbrev b_Pack_search : ByteArray := prog_4_method_5_code
def y_Pack_search : MethodName := ⟨R_Pack, "search", "(II)J"⟩
def ws_Pack_search : List Cond := .code y_Pack_search b_Pack_search 4 (some .long) :: cx_tbl
abbrev b_Pack_place : ByteArray := prog_4_method_6_code
def y_Pack_place : MethodName := ⟨R_Pack, "place", "(IIIJ)V"⟩
def ws_Pack_place : List Cond := .code y_Pack_place b_Pack_place 7 none :: cx_tbl
abbrev b_Pack_keep : ByteArray := prog_4_method_8_code
def y_Pack_keep : MethodName := ⟨R_Pack, "keep", "(J)V"⟩
def ws_Pack_keep : List Cond := .code y_Pack_keep b_Pack_keep 5 none :: cx_tbl
abbrev b_Pack_placeIn : ByteArray := prog_4_method_7_code
def y_Pack_placeIn : MethodName := ⟨R_Pack, "placeIn", "(IIIIJ)V"⟩
def ws_Pack_placeIn : List Cond := .code y_Pack_placeIn b_Pack_placeIn 16 none :: cx_tbl
abbrev b_JMath_min1 : ByteArray := prog_12_method_70_code
def y_JMath_min1 : MethodName := ⟨R_JMath, "min", "(JJ)J"⟩
def ws_JMath_min1 : List Cond := .code y_JMath_min1 b_JMath_min1 4 (some .long) :: cx_tbl
abbrev b_JMath_max2 : ByteArray := prog_12_method_66_code
def y_JMath_max2 : MethodName := ⟨R_JMath, "max", "(JJ)J"⟩
def ws_JMath_max2 : List Cond := .code y_JMath_max2 b_JMath_max2 4 (some .long) :: cx_tbl
abbrev b_Ct_packOf : ByteArray := prog_1_method_16_code
def y_Ct_packOf : MethodName := ⟨R_Ct, "packOf", "(I)I"⟩
def ws_Ct_packOf : List Cond := .code y_Ct_packOf b_Ct_packOf 2 (some .int) :: cx_tbl
abbrev b_Pack_foundFor : ByteArray := prog_4_method_4_code
def y_Pack_foundFor : MethodName := ⟨R_Pack, "foundFor", "(I)I"⟩
def ws_Pack_foundFor : List Cond := .code y_Pack_foundFor b_Pack_foundFor 2 (some .int) :: cx_tbl
abbrev b_Ct_row : ByteArray := prog_1_method_17_code
def y_Ct_row : MethodName := ⟨R_Ct, "row", "(II)Z"⟩
def ws_Ct_row : List Cond := .code y_Ct_row b_Ct_row 3 (some .boolean) :: cx_tbl
abbrev b_Fade_add : ByteArray := prog_3_method_2_code
def y_Fade_add : MethodName := ⟨R_Fade, "add", "(II)Z"⟩
def ws_Fade_add : List Cond := .code y_Fade_add b_Fade_add 3 (some .boolean) :: cx_tbl
abbrev b_Ct_fade : ByteArray := prog_1_method_18_code
def y_Ct_fade : MethodName := ⟨R_Ct, "fade", "(II)J"⟩
def ws_Ct_fade : List Cond := .code y_Ct_fade b_Ct_fade 4 (some .long) :: cx_tbl
abbrev b_Fade_leftOf : ByteArray := prog_3_method_3_code
def y_Fade_leftOf : MethodName := ⟨R_Fade, "leftOf", "(JI)J"⟩
def ws_Fade_leftOf : List Cond := .code y_Fade_leftOf b_Fade_leftOf 8 (some .long) :: cx_tbl
abbrev b_JMath_min2 : ByteArray := prog_12_method_69_code
def y_JMath_min2 : MethodName := ⟨R_JMath, "min", "(II)I"⟩
def ws_JMath_min2 : List Cond := .code y_JMath_min2 b_JMath_min2 2 (some .int) :: cx_tbl
abbrev b_Fade_fadeBy : ByteArray := prog_3_method_4_code
def y_Fade_fadeBy : MethodName := ⟨R_Fade, "fadeBy", "(JII)J"⟩
def ws_Fade_fadeBy : List Cond := .code y_Fade_fadeBy b_Fade_fadeBy 9 (some .long) :: cx_tbl
abbrev b_Ct_record : ByteArray := prog_1_method_19_code
def y_Ct_record : MethodName := ⟨R_Ct, "record", "(II)I"⟩
def ws_Ct_record : List Cond := .code y_Ct_record b_Ct_record 4 (some .int) :: cx_tbl
abbrev b_Sb_setLength : ByteArray := prog_14_method_89_code
def y_Sb_setLength : MethodName := ⟨R_Sb, "setLength", "(I)V"⟩
def ws_Sb_setLength : List Cond := .code y_Sb_setLength b_Sb_setLength 2 none :: cx_tbl
abbrev b_Asb_setLength : ByteArray := prog_9_method_13_code
def y_Asb_setLength : MethodName := ⟨R_Asb, "setLength", "(I)V"⟩
def ws_Asb_setLength : List Cond := .code y_Asb_setLength b_Asb_setLength 2 none :: cx_tbl
abbrev b_Asb_ensureCapacityInternal : ByteArray := prog_9_method_9_code
def y_Asb_ensureCapacityInternal : MethodName := ⟨R_Asb, "ensureCapacityInternal", "(I)V"⟩
def ws_Asb_ensureCapacityInternal : List Cond := .code y_Asb_ensureCapacityInternal b_Asb_ensureCapacityInternal 3 none :: cx_tbl
abbrev b_Asb_newCapacity : ByteArray := prog_9_method_10_code
def y_Asb_newCapacity : MethodName := ⟨R_Asb, "newCapacity", "(I)I"⟩
def ws_Asb_newCapacity : List Cond := .code y_Asb_newCapacity b_Asb_newCapacity 6 (some .int) :: cx_tbl
abbrev b_JArraysSupport_newLength : ByteArray := prog_19_method_27_code
def y_JArraysSupport_newLength : MethodName := ⟨R_JArraysSupport, "newLength", "(III)I"⟩
def ws_JArraysSupport_newLength : List Cond := .code y_JArraysSupport_newLength b_JArraysSupport_newLength 4 (some .int) :: cx_tbl
abbrev b_JArraysSupport_hugeLength : ByteArray := prog_19_method_28_code
def y_JArraysSupport_hugeLength : MethodName := ⟨R_JArraysSupport, "hugeLength", "(II)I"⟩
def ws_JArraysSupport_hugeLength : List Cond := .code y_JArraysSupport_hugeLength b_JArraysSupport_hugeLength 3 (some .int) :: cx_tbl
abbrev b_JArrays_copyOf : ByteArray := prog_18_method_121_code
def y_JArrays_copyOf : MethodName := ⟨R_JArrays, "copyOf", "([BI)[B"⟩
def ws_JArrays_copyOf : List Cond := .code y_JArrays_copyOf b_JArrays_copyOf 3 (some (.array .byte)) :: cx_tbl
abbrev b_Asb_isLatin1 : ByteArray := prog_9_method_68_code
def y_Asb_isLatin1 : MethodName := ⟨R_Asb, "isLatin1", "()Z"⟩
def ws_Asb_isLatin1 : List Cond := .code y_Asb_isLatin1 b_Asb_isLatin1 1 (some .boolean) :: cx_tbl
abbrev b_JStringLatin1_fillNull : ByteArray := prog_15_method_48_code
def y_JStringLatin1_fillNull : MethodName := ⟨R_JStringLatin1, "fillNull", "([BII)V"⟩
def ws_JStringLatin1_fillNull : List Cond := .code y_JStringLatin1_fillNull b_JStringLatin1_fillNull 3 none :: cx_tbl
abbrev b_JArrays_fill : ByteArray := prog_18_method_110_code
def y_JArrays_fill : MethodName := ⟨R_JArrays, "fill", "([BIIB)V"⟩
def ws_JArrays_fill : List Cond := .code y_JArrays_fill b_JArrays_fill 5 none :: cx_tbl
abbrev b_JArrays_rangeCheck : ByteArray := prog_18_method_30_code
def y_JArrays_rangeCheck : MethodName := ⟨R_JArrays, "rangeCheck", "(III)V"⟩
def ws_JArrays_rangeCheck : List Cond := .code y_JArrays_rangeCheck b_JArrays_rangeCheck 3 none :: cx_tbl
abbrev b_JStringUTF16_fillNull : ByteArray := prog_16_method_70_code
def y_JStringUTF16_fillNull : MethodName := ⟨R_JStringUTF16, "fillNull", "([BII)V"⟩
def ws_JStringUTF16_fillNull : List Cond := .code y_JStringUTF16_fillNull b_JStringUTF16_fillNull 3 none :: cx_tbl
abbrev b_Sb_append1 : ByteArray := prog_14_method_15_code
def y_Sb_append1 : MethodName := ⟨R_Sb, "append", "(I)Ljava/lang/StringBuilder;"⟩
def ws_Sb_append1 : List Cond := .code y_Sb_append1 b_Sb_append1 2 (some (.object "java/lang/StringBuilder")) :: cx_tbl
abbrev b_Asb_append1 : ByteArray := prog_9_method_32_code
def y_Asb_append1 : MethodName := ⟨R_Asb, "append", "(I)Ljava/lang/AbstractStringBuilder;"⟩
def ws_Asb_append1 : List Cond := .code y_Asb_append1 b_Asb_append1 4 (some (.object "java/lang/AbstractStringBuilder")) :: cx_tbl
abbrev b_JInteger_stringSize : ByteArray := prog_11_method_13_code
def y_JInteger_stringSize : MethodName := ⟨R_JInteger, "stringSize", "(I)I"⟩
def ws_JInteger_stringSize : List Cond := .code y_JInteger_stringSize b_JInteger_stringSize 4 (some .int) :: cx_tbl
abbrev b_JInteger_getChars : ByteArray := prog_11_method_12_code
def y_JInteger_getChars : MethodName := ⟨R_JInteger, "getChars", "(II[B)I"⟩
def ws_JInteger_getChars : List Cond := .code y_JInteger_getChars b_JInteger_getChars 7 (some .int) :: cx_tbl
abbrev b_JStringUTF16_getChars1 : ByteArray := prog_16_method_77_code
def y_JStringUTF16_getChars1 : MethodName := ⟨R_JStringUTF16, "getChars", "(III[B)I"⟩
def ws_JStringUTF16_getChars1 : List Cond := .code y_JStringUTF16_getChars1 b_JStringUTF16_getChars1 5 (some .int) :: cx_tbl
abbrev b_JStringUTF16_checkBoundsBeginEnd : ByteArray := prog_16_method_93_code
def y_JStringUTF16_checkBoundsBeginEnd : MethodName := ⟨R_JStringUTF16, "checkBoundsBeginEnd", "(II[B)V"⟩
def ws_JStringUTF16_checkBoundsBeginEnd : List Cond := .code y_JStringUTF16_checkBoundsBeginEnd b_JStringUTF16_checkBoundsBeginEnd 3 none :: cx_tbl
abbrev b_JString_checkBoundsBeginEnd : ByteArray := prog_13_method_158_code
def y_JString_checkBoundsBeginEnd : MethodName := ⟨R_JString, "checkBoundsBeginEnd", "(III)V"⟩
def ws_JString_checkBoundsBeginEnd : List Cond := .code y_JString_checkBoundsBeginEnd b_JString_checkBoundsBeginEnd 3 none :: cx_tbl
abbrev b_JPreconditions_checkFromToIndex : ByteArray := prog_20_method_12_code
def y_JPreconditions_checkFromToIndex : MethodName := ⟨R_JPreconditions, "checkFromToIndex", "(IIILjava/util/function/BiFunction;)I"⟩
def ws_JPreconditions_checkFromToIndex : List Cond := .code y_JPreconditions_checkFromToIndex b_JPreconditions_checkFromToIndex 4 (some .int) :: cx_tbl
abbrev b_JStringUTF16_getChars2 : ByteArray := prog_16_method_89_code
def y_JStringUTF16_getChars2 : MethodName := ⟨R_JStringUTF16, "getChars", "(II[B)I"⟩
def ws_JStringUTF16_getChars2 : List Cond := .code y_JStringUTF16_getChars2 b_JStringUTF16_getChars2 7 (some .int) :: cx_tbl
abbrev b_JStringUTF16_putChar : ByteArray := prog_16_method_4_code
def y_JStringUTF16_putChar : MethodName := ⟨R_JStringUTF16, "putChar", "([BII)V"⟩
def ws_JStringUTF16_putChar : List Cond := .code y_JStringUTF16_putChar b_JStringUTF16_putChar 3 none :: cx_tbl
abbrev b_Sb_append2 : ByteArray := prog_14_method_14_code
def y_Sb_append2 : MethodName := ⟨R_Sb, "append", "(C)Ljava/lang/StringBuilder;"⟩
def ws_Sb_append2 : List Cond := .code y_Sb_append2 b_Sb_append2 2 (some (.object "java/lang/StringBuilder")) :: cx_tbl
abbrev b_Asb_append2 : ByteArray := prog_9_method_31_code
def y_Asb_append2 : MethodName := ⟨R_Asb, "append", "(C)Ljava/lang/AbstractStringBuilder;"⟩
def ws_Asb_append2 : List Cond := .code y_Asb_append2 b_Asb_append2 2 (some (.object "java/lang/AbstractStringBuilder")) :: cx_tbl
abbrev b_JStringLatin1_canEncode : ByteArray := prog_15_method_3_code
def y_JStringLatin1_canEncode : MethodName := ⟨R_JStringLatin1, "canEncode", "(C)Z"⟩
def ws_JStringLatin1_canEncode : List Cond := .code y_JStringLatin1_canEncode b_JStringLatin1_canEncode 1 (some .boolean) :: cx_tbl
abbrev b_Asb_inflate : ByteArray := prog_9_method_11_code
def y_Asb_inflate : MethodName := ⟨R_Asb, "inflate", "()V"⟩
def ws_Asb_inflate : List Cond := .code y_Asb_inflate b_Asb_inflate 2 none :: cx_tbl
abbrev b_JStringLatin1_inflate : ByteArray := prog_15_method_50_code
def y_JStringLatin1_inflate : MethodName := ⟨R_JStringLatin1, "inflate", "([BI[BII)V"⟩
def ws_JStringLatin1_inflate : List Cond := .code y_JStringLatin1_inflate b_JStringLatin1_inflate 5 none :: cx_tbl
abbrev b_JStringUTF16_inflate : ByteArray := prog_16_method_86_code
def y_JStringUTF16_inflate : MethodName := ⟨R_JStringUTF16, "inflate", "([BI[BII)V"⟩
def ws_JStringUTF16_inflate : List Cond := .code y_JStringUTF16_inflate b_JStringUTF16_inflate 6 none :: cx_tbl
abbrev b_JStringUTF16_checkBoundsOffCount : ByteArray := prog_16_method_94_code
def y_JStringUTF16_checkBoundsOffCount : MethodName := ⟨R_JStringUTF16, "checkBoundsOffCount", "(II[B)V"⟩
def ws_JStringUTF16_checkBoundsOffCount : List Cond := .code y_JStringUTF16_checkBoundsOffCount b_JStringUTF16_checkBoundsOffCount 3 none :: cx_tbl
abbrev b_JString_checkBoundsOffCount : ByteArray := prog_13_method_157_code
def y_JString_checkBoundsOffCount : MethodName := ⟨R_JString, "checkBoundsOffCount", "(III)I"⟩
def ws_JString_checkBoundsOffCount : List Cond := .code y_JString_checkBoundsOffCount b_JString_checkBoundsOffCount 3 (some .int) :: cx_tbl
abbrev b_JPreconditions_checkFromIndexSize : ByteArray := prog_20_method_13_code
def y_JPreconditions_checkFromIndexSize : MethodName := ⟨R_JPreconditions, "checkFromIndexSize", "(IIILjava/util/function/BiFunction;)I"⟩
def ws_JPreconditions_checkFromIndexSize : List Cond := .code y_JPreconditions_checkFromIndexSize b_JPreconditions_checkFromIndexSize 4 (some .int) :: cx_tbl
abbrev b_JStringUTF16_putCharSB : ByteArray := prog_16_method_71_code
def y_JStringUTF16_putCharSB : MethodName := ⟨R_JStringUTF16, "putCharSB", "([BII)V"⟩
def ws_JStringUTF16_putCharSB : List Cond := .code y_JStringUTF16_putCharSB b_JStringUTF16_putCharSB 3 none :: cx_tbl
abbrev b_Sb_length : ByteArray := prog_14_method_93_code
def y_Sb_length : MethodName := ⟨R_Sb, "length", "()I"⟩
def ws_Sb_length : List Cond := .code y_Sb_length b_Sb_length 1 (some .int) :: cx_tbl
abbrev b_Asb_length : ByteArray := prog_9_method_6_code
def y_Asb_length : MethodName := ⟨R_Asb, "length", "()I"⟩
def ws_Asb_length : List Cond := .code y_Asb_length b_Asb_length 1 (some .int) :: cx_tbl
abbrev b_Sb_charAt : ByteArray := prog_14_method_88_code
def y_Sb_charAt : MethodName := ⟨R_Sb, "charAt", "(I)C"⟩
def ws_Sb_charAt : List Cond := .code y_Sb_charAt b_Sb_charAt 2 (some .char) :: cx_tbl
abbrev b_Asb_charAt : ByteArray := prog_9_method_14_code
def y_Asb_charAt : MethodName := ⟨R_Asb, "charAt", "(I)C"⟩
def ws_Asb_charAt : List Cond := .code y_Asb_charAt b_Asb_charAt 5 (some .char) :: cx_tbl
abbrev b_Md_init : ByteArray := prog_8_method_1_code
def y_Md_init : MethodName := ⟨R_Md, "<init>", "()V"⟩
def ws_Md_init : List Cond := .code y_Md_init b_Md_init 2 none :: cx_tbl
abbrev b_Md_cell : ByteArray := prog_8_method_5_code
def y_Md_cell : MethodName := ⟨R_Md, "cell", "()I"⟩
def ws_Md_cell : List Cond := .code y_Md_cell b_Md_cell 1 (some .int) :: cx_tbl
abbrev b_Md_span : ByteArray := prog_8_method_6_code
def y_Md_span : MethodName := ⟨R_Md, "span", "(II)Z"⟩
def ws_Md_span : List Cond := .code y_Md_span b_Md_span 3 (some .boolean) :: cx_tbl
abbrev b_Md_isIn : ByteArray := prog_8_method_3_code
def y_Md_isIn : MethodName := ⟨R_Md, "isIn", "(JJJ)Z"⟩
def ws_Md_isIn : List Cond := .code y_Md_isIn b_Md_isIn 6 (some .boolean) :: cx_tbl
abbrev b_Md_warm : ByteArray := prog_8_method_8_code
def y_Md_warm : MethodName := ⟨R_Md, "warm", "(II)Z"⟩
def ws_Md_warm : List Cond := .code y_Md_warm b_Md_warm 3 (some .boolean) :: cx_tbl
abbrev b_Md_isCell : ByteArray := prog_8_method_4_code
def y_Md_isCell : MethodName := ⟨R_Md, "isCell", "(I)Z"⟩
def ws_Md_isCell : List Cond := .code y_Md_isCell b_Md_isCell 2 (some .boolean) :: cx_tbl
abbrev b_Md_isInSpan : ByteArray := prog_8_method_7_code
def y_Md_isInSpan : MethodName := ⟨R_Md, "isInSpan", "(I)Z"⟩
def ws_Md_isInSpan : List Cond := .code y_Md_isInSpan b_Md_isInSpan 2 (some .boolean) :: cx_tbl
abbrev b_Md_step : ByteArray := prog_8_method_9_code
def y_Md_step : MethodName := ⟨R_Md, "step", "(IIII)Z"⟩
def ws_Md_step : List Cond := .code y_Md_step b_Md_step 6 (some .boolean) :: cx_tbl
abbrev b_Md_rest : ByteArray := prog_8_method_10_code
def y_Md_rest : MethodName := ⟨R_Md, "rest", "(III)Z"⟩
def ws_Md_rest : List Cond := .code y_Md_rest b_Md_rest 5 (some .boolean) :: cx_tbl
abbrev b_Md_charge : ByteArray := prog_8_method_11_code
def y_Md_charge : MethodName := ⟨R_Md, "charge", "(I)J"⟩
def ws_Md_charge : List Cond := .code y_Md_charge b_Md_charge 6 (some .long) :: cx_tbl
abbrev b_Md_resistance : ByteArray := prog_8_method_16_code
def y_Md_resistance : MethodName := ⟨R_Md, "resistance", "(II)I"⟩
def ws_Md_resistance : List Cond := .code y_Md_resistance b_Md_resistance 4 (some .int) :: cx_tbl
abbrev b_Md_turnOf : ByteArray := prog_8_method_15_code
def y_Md_turnOf : MethodName := ⟨R_Md, "turnOf", "(I)I"⟩
def ws_Md_turnOf : List Cond := .code y_Md_turnOf b_Md_turnOf 4 (some .int) :: cx_tbl
abbrev b_Md_size : ByteArray := prog_8_method_12_code
def y_Md_size : MethodName := ⟨R_Md, "size", "(I)I"⟩
def ws_Md_size : List Cond := .code y_Md_size b_Md_size 1 (some .int) :: cx_tbl
abbrev b_Md_partOf : ByteArray := prog_8_method_14_code
def y_Md_partOf : MethodName := ⟨R_Md, "partOf", "(III)I"⟩
def ws_Md_partOf : List Cond := .code y_Md_partOf b_Md_partOf 4 (some .int) :: cx_tbl
abbrev b_Md_common : ByteArray := prog_8_method_13_code
def y_Md_common : MethodName := ⟨R_Md, "common", "(II)I"⟩
def ws_Md_common : List Cond := .code y_Md_common b_Md_common 5 (some .int) :: cx_tbl
abbrev b_Md_loss : ByteArray := prog_8_method_17_code
def y_Md_loss : MethodName := ⟨R_Md, "loss", "(II)I"⟩
def ws_Md_loss : List Cond := .code y_Md_loss b_Md_loss 6 (some .int) :: cx_tbl
abbrev b_Md_uns : ByteArray := prog_8_method_20_code
def y_Md_uns : MethodName := ⟨R_Md, "\x75nsafe", "(I)Z"⟩
def ws_Md_uns : List Cond := .code y_Md_uns b_Md_uns 4 (some .boolean) :: cx_tbl
abbrev b_Md_lastRest : ByteArray := prog_8_method_19_code
def y_Md_lastRest : MethodName := ⟨R_Md, "lastRest", "(I)I"⟩
def ws_Md_lastRest : List Cond := .code y_Md_lastRest b_Md_lastRest 2 (some .int) :: cx_tbl
abbrev b_Md_unit : ByteArray := prog_8_method_21_code
def y_Md_unit : MethodName := ⟨R_Md, "unit", "(I)Z"⟩
def ws_Md_unit : List Cond := .code y_Md_unit b_Md_unit 2 (some .boolean) :: cx_tbl
abbrev b_Md_rules : ByteArray := prog_8_method_27_code
def y_Md_rules : MethodName := ⟨R_Md, "rules", "()I"⟩
def ws_Md_rules : List Cond := .code y_Md_rules b_Md_rules 6 (some .int) :: cx_tbl
abbrev b_Md_next : ByteArray := prog_8_method_23_code
def y_Md_next : MethodName := ⟨R_Md, "next", "()Z"⟩
def ws_Md_next : List Cond := .code y_Md_next b_Md_next 1 (some .boolean) :: cx_tbl
abbrev b_Md_isBlank : ByteArray := prog_8_method_22_code
def y_Md_isBlank : MethodName := ⟨R_Md, "isBlank", "(I)Z"⟩
def ws_Md_isBlank : List Cond := .code y_Md_isBlank b_Md_isBlank 1 (some .boolean) :: cx_tbl
abbrev b_Md_numberAt : ByteArray := prog_8_method_26_code
def y_Md_numberAt : MethodName := ⟨R_Md, "numberAt", "()I"⟩
def ws_Md_numberAt : List Cond := .code y_Md_numberAt b_Md_numberAt 5 (some .int) :: cx_tbl
abbrev b_Md_isClass : ByteArray := prog_8_method_24_code
def y_Md_isClass : MethodName := ⟨R_Md, "isClass", "()Z"⟩
def ws_Md_isClass : List Cond := .code y_Md_isClass b_Md_isClass 1 (some .boolean) :: cx_tbl
abbrev b_Md_isLetter : ByteArray := prog_8_method_25_code
def y_Md_isLetter : MethodName := ⟨R_Md, "isLetter", "()Z"⟩
def ws_Md_isLetter : List Cond := .code y_Md_isLetter b_Md_isLetter 1 (some .boolean) :: cx_tbl
abbrev b_Md_take : ByteArray := prog_8_method_28_code
def y_Md_take : MethodName := ⟨R_Md, "take", "(II)I"⟩
def ws_Md_take : List Cond := .code y_Md_take b_Md_take 3 (some .int) :: cx_tbl
abbrev b_Md_cls : ByteArray := prog_8_method_30_code
def y_Md_cls : MethodName := ⟨R_Md, "cls", "(I)I"⟩
def ws_Md_cls : List Cond := .code y_Md_cls b_Md_cls 5 (some .int) :: cx_tbl
abbrev b_Md_isOpen : ByteArray := prog_8_method_18_code
def y_Md_isOpen : MethodName := ⟨R_Md, "isOpen", "(I)Z"⟩
def ws_Md_isOpen : List Cond := .code y_Md_isOpen b_Md_isOpen 2 (some .boolean) :: cx_tbl
abbrev b_Md_holds : ByteArray := prog_8_method_29_code
def y_Md_holds : MethodName := ⟨R_Md, "holds", "(II)Z"⟩
def ws_Md_holds : List Cond := .code y_Md_holds b_Md_holds 8 (some .boolean) :: cx_tbl
abbrev b_Md_may : ByteArray := prog_8_method_31_code
def y_Md_may : MethodName := ⟨R_Md, "may", "(II)Z"⟩
def ws_Md_may : List Cond := .code y_Md_may b_Md_may 3 (some .boolean) :: cx_tbl
abbrev b_Md_pack : ByteArray := prog_8_method_36_code
def y_Md_pack : MethodName := ⟨R_Md, "pack", "(II)J"⟩
def ws_Md_pack : List Cond := .code y_Md_pack b_Md_pack 10 (some .long) :: cx_tbl
abbrev b_Md_isWhole : ByteArray := prog_8_method_32_code
def y_Md_isWhole : MethodName := ⟨R_Md, "isWhole", "(I)Z"⟩
def ws_Md_isWhole : List Cond := .code y_Md_isWhole b_Md_isWhole 2 (some .boolean) :: cx_tbl
abbrev b_Md_mayBe : ByteArray := prog_8_method_35_code
def y_Md_mayBe : MethodName := ⟨R_Md, "mayBe", "(II)Z"⟩
def ws_Md_mayBe : List Cond := .code y_Md_mayBe b_Md_mayBe 5 (some .boolean) :: cx_tbl
abbrev b_Md_spread : ByteArray := prog_8_method_33_code
def y_Md_spread : MethodName := ⟨R_Md, "spread", "(II)J"⟩
def ws_Md_spread : List Cond := .code y_Md_spread b_Md_spread 16 (some .long) :: cx_tbl
abbrev b_Md_turn : ByteArray := prog_8_method_34_code
def y_Md_turn : MethodName := ⟨R_Md, "turn", "(I)Z"⟩
def ws_Md_turn : List Cond := .code y_Md_turn b_Md_turn 3 (some .boolean) :: cx_tbl
abbrev b_Md_packOf : ByteArray := prog_8_method_37_code
def y_Md_packOf : MethodName := ⟨R_Md, "packOf", "(I)I"⟩
def ws_Md_packOf : List Cond := .code y_Md_packOf b_Md_packOf 2 (some .int) :: cx_tbl
abbrev b_Md_row : ByteArray := prog_8_method_38_code
def y_Md_row : MethodName := ⟨R_Md, "row", "(II)Z"⟩
def ws_Md_row : List Cond := .code y_Md_row b_Md_row 3 (some .boolean) :: cx_tbl
abbrev b_Md_fade : ByteArray := prog_8_method_39_code
def y_Md_fade : MethodName := ⟨R_Md, "fade", "(II)J"⟩
def ws_Md_fade : List Cond := .code y_Md_fade b_Md_fade 9 (some .long) :: cx_tbl
abbrev b_Md_record : ByteArray := prog_8_method_42_code
def y_Md_record : MethodName := ⟨R_Md, "record", "(II)I"⟩
def ws_Md_record : List Cond := .code y_Md_record b_Md_record 3 (some .int) :: cx_tbl
abbrev b_Md_putNumber : ByteArray := prog_8_method_41_code
def y_Md_putNumber : MethodName := ⟨R_Md, "putNumber", "(J)V"⟩
def ws_Md_putNumber : List Cond := .code y_Md_putNumber b_Md_putNumber 7 none :: cx_tbl
abbrev b_Md_put : ByteArray := prog_8_method_40_code
def y_Md_put : MethodName := ⟨R_Md, "put", "(I)V"⟩
def ws_Md_put : List Cond := .code y_Md_put b_Md_put 2 none :: cx_tbl
theorem cw_0 : (.initialized "CellTestsLaw") ∈ cx_tbl := cx_inw 33 (by decide +kernel) (by decide +kernel)
theorem cw_1 : (.initialized "CellTests") ∈ cx_tbl := cx_inw 34 (by decide +kernel) (by decide +kernel)
theorem cw_2 : (.initialized "CellTests$RuleText") ∈ cx_tbl := cx_inw 35 (by decide +kernel) (by decide +kernel)
theorem cw_3 : (.initialized "CellTests$RuleSet") ∈ cx_tbl := cx_inw 36 (by decide +kernel) (by decide +kernel)
theorem cw_4 : (.initialized "CellTests$Packer") ∈ cx_tbl := cx_inw 37 (by decide +kernel) (by decide +kernel)
theorem cw_5 : (.initialized "CellTests$FadeRows") ∈ cx_tbl := cx_inw 38 (by decide +kernel) (by decide +kernel)
theorem cw_6 : (.initialized "java/lang/AbstractStringBuilder") ∈ cx_tbl := cx_inw 39 (by decide +kernel) (by decide +kernel)
theorem cw_7 : (.initialized "java/lang/StringBuilder") ∈ cx_tbl := cx_inw 40 (by decide +kernel) (by decide +kernel)
theorem cw_8 : (.initialized "java/lang/String") ∈ cx_tbl := cx_inw 41 (by decide +kernel) (by decide +kernel)
theorem cw_9 : (.initialized "java/lang/StringUTF16") ∈ cx_tbl := cx_inw 42 (by decide +kernel) (by decide +kernel)
theorem cw_10 : (.initialized "CellTestsModel") ∈ cx_tbl := cx_inw 43 (by decide +kernel) (by decide +kernel)
theorem cw_11 : (.initialized "CellTests$Cell") ∈ cx_tbl := cx_inw 44 (by decide +kernel) (by decide +kernel)
theorem cw_12 : (.initialized "java/lang/Math") ∈ cx_tbl := cx_inw 45 (by decide +kernel) (by decide +kernel)
theorem cw_13 : (.initialized "java/lang/StringLatin1") ∈ cx_tbl := cx_inw 46 (by decide +kernel) (by decide +kernel)
theorem cw_14 : (.initialized "jdk/internal/util/Preconditions") ∈ cx_tbl := cx_inw 47 (by decide +kernel) (by decide +kernel)
theorem cw_15 : (.initialized "jdk/internal/util/ArraysSupport") ∈ cx_tbl := cx_inw 48 (by decide +kernel) (by decide +kernel)
theorem cw_16 : (.initialized "java/util/Arrays") ∈ cx_tbl := cx_inw 49 (by decide +kernel) (by decide +kernel)
theorem cw_17 : (.initialized "java/lang/System") ∈ cx_tbl := cx_inw 50 (by decide +kernel) (by decide +kernel)
theorem cw_18 : (.initialized "java/lang/Integer") ∈ cx_tbl := cx_inw 51 (by decide +kernel) (by decide +kernel)
theorem cw_19 : (.classLink "CellTestsLaw" (7 : Nat) "CellTests") ∈ cx_tbl := cx_inw 52 (by decide +kernel) (by decide +kernel)
theorem cw_20 : (.instantiable "CellTests" (10 : Nat)) ∈ cx_tbl := cx_inw 53 (by decide +kernel) (by decide +kernel)
theorem cw_21 : (.methodLink "CellTestsLaw" (9 : Nat) ({ cls := "CellTests", name := "<init>", desc := "()V" } : MethodName)) ∈ cx_tbl := cx_inw 54 (by decide +kernel) (by decide +kernel)
theorem cw_22 : (.instanceMethod ({ cls := "CellTests", name := "<init>", desc := "()V" } : MethodName)) ∈ cx_tbl := cx_inw 55 (by decide +kernel) (by decide +kernel)
theorem cw_23 : (.code ({ cls := "CellTests", name := "<init>", desc := "()V" } : MethodName) prog_1_method_1_code (1 : Nat) (Option.none : Option Jvm.ClassFile.FieldType)) ∈ cx_tbl := cx_inw 56 (by decide +kernel) (by decide +kernel)
theorem cw_24 : (.methodLink "CellTests" (1 : Nat) ({ cls := "java/lang/Object", name := "<init>", desc := "()V" } : MethodName)) ∈ cx_tbl := cx_inw 57 (by decide +kernel) (by decide +kernel)
theorem cw_25 : (.instanceMethod ({ cls := "java/lang/Object", name := "<init>", desc := "()V" } : MethodName)) ∈ cx_tbl := cx_inw 58 (by decide +kernel) (by decide +kernel)
theorem cw_26 : (.code ({ cls := "java/lang/Object", name := "<init>", desc := "()V" } : MethodName) object_method_1_code (1 : Nat) (Option.none : Option Jvm.ClassFile.FieldType)) ∈ cx_tbl := cx_inw 59 (by decide +kernel) (by decide +kernel)
theorem cw_27 : (.classLink "CellTests" (9 : Nat) "CellTests$Cell") ∈ cx_tbl := cx_inw 60 (by decide +kernel) (by decide +kernel)
theorem cw_29 : (.constant "CellTests" (22 : Nat) (1000000 : Int32)) ∈ cx_tbl := cx_inw 62 (by decide +kernel) (by decide +kernel)
theorem cw_30 : (.classLink "CellTests" (26 : Nat) "CellTests$RuleText") ∈ cx_tbl := cx_inw 63 (by decide +kernel) (by decide +kernel)
theorem cw_31 : (.instantiable "CellTests$RuleText" (5 : Nat)) ∈ cx_tbl := cx_inw 64 (by decide +kernel) (by decide +kernel)
theorem cn_32 : (.methodLinkNest "CellTests" (28 : Nat) ({ cls := "CellTests$RuleText", name := "<init>", desc := "()V" } : MethodName) "CellTests") ∈ cx_nws := cx_inn 65 (by decide +kernel) (by decide +kernel)
theorem cw_33 : (.instanceMethod ({ cls := "CellTests$RuleText", name := "<init>", desc := "()V" } : MethodName)) ∈ cx_tbl := cx_inw 66 (by decide +kernel) (by decide +kernel)
theorem cw_34 : (.code ({ cls := "CellTests$RuleText", name := "<init>", desc := "()V" } : MethodName) prog_6_method_1_code (1 : Nat) (Option.none : Option Jvm.ClassFile.FieldType)) ∈ cx_tbl := cx_inw 67 (by decide +kernel) (by decide +kernel)
theorem cw_35 : (.methodLink "CellTests$RuleText" (3 : Nat) ({ cls := "java/lang/Object", name := "<init>", desc := "()V" } : MethodName)) ∈ cx_tbl := cx_inw 68 (by decide +kernel) (by decide +kernel)
theorem cw_36 : (.fieldLink "CellTests$RuleText" (11 : Nat) "CellTests$RuleText" "bytes" "[C") ∈ cx_tbl := cx_inw 69 (by decide +kernel) (by decide +kernel)
theorem cw_37 : (.fieldLink "CellTests$RuleText" (15 : Nat) "CellTests$RuleText" "length" "I") ∈ cx_tbl := cx_inw 70 (by decide +kernel) (by decide +kernel)
theorem cw_38 : (.fieldLink "CellTests$RuleText" (24 : Nat) "CellTests$RuleText" "due" "I") ∈ cx_tbl := cx_inw 71 (by decide +kernel) (by decide +kernel)
theorem cw_39 : (.fieldLink "CellTests$RuleText" (78 : Nat) "CellTests$RuleText" "letter" "C") ∈ cx_tbl := cx_inw 72 (by decide +kernel) (by decide +kernel)
theorem cw_40 : (.fieldLink "CellTests$RuleText" (83 : Nat) "CellTests$RuleText" "low" "I") ∈ cx_tbl := cx_inw 73 (by decide +kernel) (by decide +kernel)
theorem cw_41 : (.laysFinal "CellTests$RuleText" "CellTests$RuleText" "bytes" "[C") ∈ cx_tbl := cx_inw 74 (by decide +kernel) (by decide +kernel)
theorem cw_43 : (.lays "CellTests$RuleText" "CellTests$RuleText" "length" "I") ∈ cx_tbl := cx_inw 76 (by decide +kernel) (by decide +kernel)
theorem cw_45 : (.lays "CellTests$RuleText" "CellTests$RuleText" "due" "I") ∈ cx_tbl := cx_inw 78 (by decide +kernel) (by decide +kernel)
theorem cw_47 : (.lays "CellTests$RuleText" "CellTests$RuleText" "letter" "C") ∈ cx_tbl := cx_inw 80 (by decide +kernel) (by decide +kernel)
theorem cw_49 : (.lays "CellTests$RuleText" "CellTests$RuleText" "low" "I") ∈ cx_tbl := cx_inw 82 (by decide +kernel) (by decide +kernel)
theorem cw_52 : (.arrayClass .char) ∈ cx_tbl := cx_inw 85 (by decide +kernel) (by decide +kernel)
theorem cw_53 : (.classLink "CellTests" (33 : Nat) "CellTests$RuleSet") ∈ cx_tbl := cx_inw 86 (by decide +kernel) (by decide +kernel)
theorem cw_54 : (.instantiable "CellTests$RuleSet" (7 : Nat)) ∈ cx_tbl := cx_inw 87 (by decide +kernel) (by decide +kernel)
theorem cn_55 : (.methodLinkNest "CellTests" (35 : Nat) ({ cls := "CellTests$RuleSet", name := "<init>", desc := "()V" } : MethodName) "CellTests") ∈ cx_nws := cx_inn 88 (by decide +kernel) (by decide +kernel)
theorem cw_56 : (.instanceMethod ({ cls := "CellTests$RuleSet", name := "<init>", desc := "()V" } : MethodName)) ∈ cx_tbl := cx_inw 89 (by decide +kernel) (by decide +kernel)
theorem cw_57 : (.code ({ cls := "CellTests$RuleSet", name := "<init>", desc := "()V" } : MethodName) prog_5_method_1_code (1 : Nat) (Option.none : Option Jvm.ClassFile.FieldType)) ∈ cx_tbl := cx_inw 90 (by decide +kernel) (by decide +kernel)
theorem cw_58 : (.methodLink "CellTests$RuleSet" (3 : Nat) ({ cls := "java/lang/Object", name := "<init>", desc := "()V" } : MethodName)) ∈ cx_tbl := cx_inw 91 (by decide +kernel) (by decide +kernel)
theorem cw_59 : (.fieldLink "CellTests$RuleSet" (11 : Nat) "CellTests$RuleSet" "classes" "[I") ∈ cx_tbl := cx_inw 92 (by decide +kernel) (by decide +kernel)
theorem cw_60 : (.fieldLink "CellTests$RuleSet" (15 : Nat) "CellTests$RuleSet" "clauseEnds" "[I") ∈ cx_tbl := cx_inw 93 (by decide +kernel) (by decide +kernel)
theorem cw_61 : (.fieldLink "CellTests$RuleSet" (28 : Nat) "CellTests$RuleSet" "sentences" "I") ∈ cx_tbl := cx_inw 94 (by decide +kernel) (by decide +kernel)
theorem cn_62 : (.fieldLinkNest "CellTests$RuleText" (35 : Nat) "CellTests$RuleSet" "sentences" "I" "CellTests") ∈ cx_nws := cx_inn 95 (by decide +kernel) (by decide +kernel)
theorem cw_63 : (.fieldLink "CellTests$RuleSet" (18 : Nat) "CellTests$RuleSet" "letters" "[C") ∈ cx_tbl := cx_inw 96 (by decide +kernel) (by decide +kernel)
theorem cw_64 : (.fieldLink "CellTests$RuleSet" (22 : Nat) "CellTests$RuleSet" "lows" "[I") ∈ cx_tbl := cx_inw 97 (by decide +kernel) (by decide +kernel)
theorem cw_65 : (.fieldLink "CellTests$RuleSet" (25 : Nat) "CellTests$RuleSet" "highs" "[I") ∈ cx_tbl := cx_inw 98 (by decide +kernel) (by decide +kernel)
theorem cw_66 : (.fieldLink "CellTests$RuleSet" (32 : Nat) "CellTests$RuleSet" "clauses" "I") ∈ cx_tbl := cx_inw 99 (by decide +kernel) (by decide +kernel)
theorem cw_67 : (.laysFinal "CellTests$RuleSet" "CellTests$RuleSet" "classes" "[I") ∈ cx_tbl := cx_inw 100 (by decide +kernel) (by decide +kernel)
theorem cw_69 : (.laysFinal "CellTests$RuleSet" "CellTests$RuleSet" "clauseEnds" "[I") ∈ cx_tbl := cx_inw 102 (by decide +kernel) (by decide +kernel)
theorem cw_71 : (.lays "CellTests$RuleSet" "CellTests$RuleSet" "sentences" "I") ∈ cx_tbl := cx_inw 104 (by decide +kernel) (by decide +kernel)
theorem cw_73 : (.laysFinal "CellTests$RuleSet" "CellTests$RuleSet" "letters" "[C") ∈ cx_tbl := cx_inw 106 (by decide +kernel) (by decide +kernel)
theorem cw_75 : (.laysFinal "CellTests$RuleSet" "CellTests$RuleSet" "lows" "[I") ∈ cx_tbl := cx_inw 108 (by decide +kernel) (by decide +kernel)
theorem cw_77 : (.laysFinal "CellTests$RuleSet" "CellTests$RuleSet" "highs" "[I") ∈ cx_tbl := cx_inw 110 (by decide +kernel) (by decide +kernel)
theorem cw_79 : (.lays "CellTests$RuleSet" "CellTests$RuleSet" "clauses" "I") ∈ cx_tbl := cx_inw 112 (by decide +kernel) (by decide +kernel)
theorem cw_82 : (.arrayClass .int) ∈ cx_tbl := cx_inw 115 (by decide +kernel) (by decide +kernel)
theorem cw_83 : (.classLink "CellTests" (43 : Nat) "CellTests$Packer") ∈ cx_tbl := cx_inw 116 (by decide +kernel) (by decide +kernel)
theorem cw_84 : (.instantiable "CellTests$Packer" (11 : Nat)) ∈ cx_tbl := cx_inw 117 (by decide +kernel) (by decide +kernel)
theorem cw_85 : (.methodLink "CellTests" (45 : Nat) ({ cls := "CellTests$Packer", name := "<init>", desc := "()V" } : MethodName)) ∈ cx_tbl := cx_inw 118 (by decide +kernel) (by decide +kernel)
theorem cw_86 : (.instanceMethod ({ cls := "CellTests$Packer", name := "<init>", desc := "()V" } : MethodName)) ∈ cx_tbl := cx_inw 119 (by decide +kernel) (by decide +kernel)
theorem cw_87 : (.code ({ cls := "CellTests$Packer", name := "<init>", desc := "()V" } : MethodName) prog_4_method_1_code (2 : Nat) (Option.none : Option Jvm.ClassFile.FieldType)) ∈ cx_tbl := cx_inw 120 (by decide +kernel) (by decide +kernel)
theorem cw_88 : (.methodLink "CellTests$Packer" (3 : Nat) ({ cls := "java/lang/Object", name := "<init>", desc := "()V" } : MethodName)) ∈ cx_tbl := cx_inw 121 (by decide +kernel) (by decide +kernel)
theorem cw_89 : (.fieldLink "CellTests$Packer" (9 : Nat) "CellTests$Packer" "found" "[I") ∈ cx_tbl := cx_inw 122 (by decide +kernel) (by decide +kernel)
theorem cw_90 : (.fieldLink "CellTests$Packer" (15 : Nat) "CellTests$Packer" "numbers" "[I") ∈ cx_tbl := cx_inw 123 (by decide +kernel) (by decide +kernel)
theorem cw_91 : (.fieldLink "CellTests$Packer" (18 : Nat) "CellTests$Packer" "charges" "[J") ∈ cx_tbl := cx_inw 124 (by decide +kernel) (by decide +kernel)
theorem cw_92 : (.fieldLink "CellTests$Packer" (22 : Nat) "CellTests$Packer" "choice" "[I") ∈ cx_tbl := cx_inw 125 (by decide +kernel) (by decide +kernel)
theorem cw_93 : (.fieldLink "CellTests$Packer" (34 : Nat) "CellTests$Packer" "count" "I") ∈ cx_tbl := cx_inw 126 (by decide +kernel) (by decide +kernel)
theorem cw_94 : (.fieldLink "CellTests$Packer" (40 : Nat) "CellTests$Packer" "inPack" "I") ∈ cx_tbl := cx_inw 127 (by decide +kernel) (by decide +kernel)
theorem cw_95 : (.fieldLink "CellTests$Packer" (43 : Nat) "CellTests$Packer" "packs" "I") ∈ cx_tbl := cx_inw 128 (by decide +kernel) (by decide +kernel)
theorem cw_96 : (.fieldLink "CellTests$Packer" (25 : Nat) "CellTests$Packer" "sizes" "[I") ∈ cx_tbl := cx_inw 129 (by decide +kernel) (by decide +kernel)
theorem cw_97 : (.fieldLink "CellTests$Packer" (28 : Nat) "CellTests$Packer" "least" "[J") ∈ cx_tbl := cx_inw 130 (by decide +kernel) (by decide +kernel)
theorem cw_98 : (.fieldLink "CellTests$Packer" (31 : Nat) "CellTests$Packer" "greatest" "[J") ∈ cx_tbl := cx_inw 131 (by decide +kernel) (by decide +kernel)
theorem cw_99 : (.fieldLink "CellTests$Packer" (50 : Nat) "CellTests$Packer" "best" "J") ∈ cx_tbl := cx_inw 132 (by decide +kernel) (by decide +kernel)
theorem cw_100 : (.laysFinal "CellTests$Packer" "CellTests$Packer" "found" "[I") ∈ cx_tbl := cx_inw 133 (by decide +kernel) (by decide +kernel)
theorem cw_102 : (.laysFinal "CellTests$Packer" "CellTests$Packer" "numbers" "[I") ∈ cx_tbl := cx_inw 135 (by decide +kernel) (by decide +kernel)
theorem cw_104 : (.laysFinal "CellTests$Packer" "CellTests$Packer" "charges" "[J") ∈ cx_tbl := cx_inw 137 (by decide +kernel) (by decide +kernel)
theorem cw_106 : (.laysFinal "CellTests$Packer" "CellTests$Packer" "choice" "[I") ∈ cx_tbl := cx_inw 139 (by decide +kernel) (by decide +kernel)
theorem cw_108 : (.lays "CellTests$Packer" "CellTests$Packer" "count" "I") ∈ cx_tbl := cx_inw 141 (by decide +kernel) (by decide +kernel)
theorem cw_110 : (.lays "CellTests$Packer" "CellTests$Packer" "inPack" "I") ∈ cx_tbl := cx_inw 143 (by decide +kernel) (by decide +kernel)
theorem cw_112 : (.lays "CellTests$Packer" "CellTests$Packer" "packs" "I") ∈ cx_tbl := cx_inw 145 (by decide +kernel) (by decide +kernel)
theorem cw_114 : (.laysFinal "CellTests$Packer" "CellTests$Packer" "sizes" "[I") ∈ cx_tbl := cx_inw 147 (by decide +kernel) (by decide +kernel)
theorem cw_116 : (.laysFinal "CellTests$Packer" "CellTests$Packer" "least" "[J") ∈ cx_tbl := cx_inw 149 (by decide +kernel) (by decide +kernel)
theorem cw_118 : (.laysFinal "CellTests$Packer" "CellTests$Packer" "greatest" "[J") ∈ cx_tbl := cx_inw 151 (by decide +kernel) (by decide +kernel)
theorem cw_120 : (.lays "CellTests$Packer" "CellTests$Packer" "best" "J") ∈ cx_tbl := cx_inw 153 (by decide +kernel) (by decide +kernel)
theorem cw_123 : (.arrayClass .long) ∈ cx_tbl := cx_inw 156 (by decide +kernel) (by decide +kernel)
theorem cw_124 : (.classLink "CellTests" (50 : Nat) "CellTests$FadeRows") ∈ cx_tbl := cx_inw 157 (by decide +kernel) (by decide +kernel)
theorem cw_125 : (.instantiable "CellTests$FadeRows" (3 : Nat)) ∈ cx_tbl := cx_inw 158 (by decide +kernel) (by decide +kernel)
theorem cn_126 : (.methodLinkNest "CellTests" (52 : Nat) ({ cls := "CellTests$FadeRows", name := "<init>", desc := "()V" } : MethodName) "CellTests") ∈ cx_nws := cx_inn 159 (by decide +kernel) (by decide +kernel)
theorem cw_127 : (.instanceMethod ({ cls := "CellTests$FadeRows", name := "<init>", desc := "()V" } : MethodName)) ∈ cx_tbl := cx_inw 160 (by decide +kernel) (by decide +kernel)
theorem cw_128 : (.code ({ cls := "CellTests$FadeRows", name := "<init>", desc := "()V" } : MethodName) prog_3_method_1_code (1 : Nat) (Option.none : Option Jvm.ClassFile.FieldType)) ∈ cx_tbl := cx_inw 161 (by decide +kernel) (by decide +kernel)
theorem cw_129 : (.methodLink "CellTests$FadeRows" (3 : Nat) ({ cls := "java/lang/Object", name := "<init>", desc := "()V" } : MethodName)) ∈ cx_tbl := cx_inw 162 (by decide +kernel) (by decide +kernel)
theorem cw_130 : (.fieldLink "CellTests$FadeRows" (11 : Nat) "CellTests$FadeRows" "from" "[I") ∈ cx_tbl := cx_inw 163 (by decide +kernel) (by decide +kernel)
theorem cw_131 : (.fieldLink "CellTests$FadeRows" (15 : Nat) "CellTests$FadeRows" "thousandths" "[I") ∈ cx_tbl := cx_inw 164 (by decide +kernel) (by decide +kernel)
theorem cw_132 : (.fieldLink "CellTests$FadeRows" (18 : Nat) "CellTests$FadeRows" "count" "I") ∈ cx_tbl := cx_inw 165 (by decide +kernel) (by decide +kernel)
theorem cw_133 : (.laysFinal "CellTests$FadeRows" "CellTests$FadeRows" "from" "[I") ∈ cx_tbl := cx_inw 166 (by decide +kernel) (by decide +kernel)
theorem cw_135 : (.laysFinal "CellTests$FadeRows" "CellTests$FadeRows" "thousandths" "[I") ∈ cx_tbl := cx_inw 168 (by decide +kernel) (by decide +kernel)
theorem cw_137 : (.lays "CellTests$FadeRows" "CellTests$FadeRows" "count" "I") ∈ cx_tbl := cx_inw 170 (by decide +kernel) (by decide +kernel)
theorem cw_140 : (.classLink "CellTests" (57 : Nat) "java/lang/StringBuilder") ∈ cx_tbl := cx_inw 173 (by decide +kernel) (by decide +kernel)
theorem cw_141 : (.instantiable "java/lang/StringBuilder" (4 : Nat)) ∈ cx_tbl := cx_inw 174 (by decide +kernel) (by decide +kernel)
theorem cw_142 : (.methodLink "CellTests" (59 : Nat) ({ cls := "java/lang/StringBuilder", name := "<init>", desc := "()V" } : MethodName)) ∈ cx_tbl := cx_inw 175 (by decide +kernel) (by decide +kernel)
theorem cw_143 : (.instanceMethod ({ cls := "java/lang/StringBuilder", name := "<init>", desc := "()V" } : MethodName)) ∈ cx_tbl := cx_inw 176 (by decide +kernel) (by decide +kernel)
theorem cw_144 : (.code ({ cls := "java/lang/StringBuilder", name := "<init>", desc := "()V" } : MethodName) prog_14_method_1_code (1 : Nat) (Option.none : Option Jvm.ClassFile.FieldType)) ∈ cx_tbl := cx_inw 177 (by decide +kernel) (by decide +kernel)
theorem cw_145 : (.methodLink "java/lang/StringBuilder" (1 : Nat) ({ cls := "java/lang/AbstractStringBuilder", name := "<init>", desc := "(I)V" } : MethodName)) ∈ cx_tbl := cx_inw 178 (by decide +kernel) (by decide +kernel)
theorem cw_146 : (.instanceMethod ({ cls := "java/lang/AbstractStringBuilder", name := "<init>", desc := "(I)V" } : MethodName)) ∈ cx_tbl := cx_inw 179 (by decide +kernel) (by decide +kernel)
theorem cw_147 : (.code ({ cls := "java/lang/AbstractStringBuilder", name := "<init>", desc := "(I)V" } : MethodName) prog_9_method_2_code (2 : Nat) (Option.none : Option Jvm.ClassFile.FieldType)) ∈ cx_tbl := cx_inw 180 (by decide +kernel) (by decide +kernel)
theorem cw_148 : (.methodLink "java/lang/AbstractStringBuilder" (3 : Nat) ({ cls := "java/lang/Object", name := "<init>", desc := "()V" } : MethodName)) ∈ cx_tbl := cx_inw 181 (by decide +kernel) (by decide +kernel)
theorem cw_149 : (.fieldLink "java/lang/AbstractStringBuilder" (18 : Nat) "java/lang/String" "COMPACT_STRINGS" "Z") ∈ cx_tbl := cx_inw 182 (by decide +kernel) (by decide +kernel)
theorem cw_151 : (.methodLink "java/lang/AbstractStringBuilder" (26 : Nat) ({ cls := "java/lang/StringUTF16", name := "newBytesFor", desc := "(I)[B" } : MethodName)) ∈ cx_tbl := cx_inw 184 (by decide +kernel) (by decide +kernel)
theorem cw_152 : (.static ({ cls := "java/lang/StringUTF16", name := "newBytesFor", desc := "(I)[B" } : MethodName)) ∈ cx_tbl := cx_inw 185 (by decide +kernel) (by decide +kernel)
theorem cw_153 : (.code ({ cls := "java/lang/StringUTF16", name := "newBytesFor", desc := "(I)[B" } : MethodName) prog_16_method_2_code (1 : Nat) (Option.some (.array .byte))) ∈ cx_tbl := cx_inw 186 (by decide +kernel) (by decide +kernel)
theorem cw_154 : (.methodLink "java/lang/StringUTF16" (11 : Nat) ({ cls := "java/lang/StringUTF16", name := "newBytesLength", desc := "(I)I" } : MethodName)) ∈ cx_tbl := cx_inw 187 (by decide +kernel) (by decide +kernel)
theorem cw_155 : (.static ({ cls := "java/lang/StringUTF16", name := "newBytesLength", desc := "(I)I" } : MethodName)) ∈ cx_tbl := cx_inw 188 (by decide +kernel) (by decide +kernel)
theorem cw_156 : (.code ({ cls := "java/lang/StringUTF16", name := "newBytesLength", desc := "(I)I" } : MethodName) prog_16_method_3_code (1 : Nat) (Option.some .int)) ∈ cx_tbl := cx_inw 189 (by decide +kernel) (by decide +kernel)
theorem cw_157 : (.constant "java/lang/StringUTF16" (20 : Nat) (1073741823 : Int32)) ∈ cx_tbl := cx_inw 190 (by decide +kernel) (by decide +kernel)
theorem cw_158 : (.fieldLink "java/lang/AbstractStringBuilder" (15 : Nat) "java/lang/AbstractStringBuilder" "value" "[B") ∈ cx_tbl := cx_inw 191 (by decide +kernel) (by decide +kernel)
theorem cw_159 : (.fieldLink "java/lang/AbstractStringBuilder" (22 : Nat) "java/lang/AbstractStringBuilder" "coder" "B") ∈ cx_tbl := cx_inw 192 (by decide +kernel) (by decide +kernel)
theorem cw_160 : (.fieldLink "java/lang/AbstractStringBuilder" (73 : Nat) "java/lang/AbstractStringBuilder" "maybeLatin1" "Z") ∈ cx_tbl := cx_inw 193 (by decide +kernel) (by decide +kernel)
theorem cw_161 : (.fieldLink "java/lang/AbstractStringBuilder" (79 : Nat) "java/lang/AbstractStringBuilder" "count" "I") ∈ cx_tbl := cx_inw 194 (by decide +kernel) (by decide +kernel)
theorem cw_162 : (.lays "java/lang/StringBuilder" "java/lang/AbstractStringBuilder" "value" "[B") ∈ cx_tbl := cx_inw 195 (by decide +kernel) (by decide +kernel)
theorem cw_164 : (.lays "java/lang/StringBuilder" "java/lang/AbstractStringBuilder" "coder" "B") ∈ cx_tbl := cx_inw 197 (by decide +kernel) (by decide +kernel)
theorem cw_166 : (.lays "java/lang/StringBuilder" "java/lang/AbstractStringBuilder" "maybeLatin1" "Z") ∈ cx_tbl := cx_inw 199 (by decide +kernel) (by decide +kernel)
theorem cw_168 : (.lays "java/lang/StringBuilder" "java/lang/AbstractStringBuilder" "count" "I") ∈ cx_tbl := cx_inw 201 (by decide +kernel) (by decide +kernel)
theorem cw_171 : (.arrayClass .byte) ∈ cx_tbl := cx_inw 204 (by decide +kernel) (by decide +kernel)
theorem cw_172 : (.fieldLink "CellTests" (11 : Nat) "CellTests" "cells" "[LCellTests$Cell;") ∈ cx_tbl := cx_inw 205 (by decide +kernel) (by decide +kernel)
theorem cw_173 : (.fieldLink "CellTests" (15 : Nat) "CellTests" "count" "I") ∈ cx_tbl := cx_inw 206 (by decide +kernel) (by decide +kernel)
theorem cw_174 : (.fieldLink "CellTests" (19 : Nat) "CellTests" "spanLow" "I") ∈ cx_tbl := cx_inw 207 (by decide +kernel) (by decide +kernel)
theorem cw_175 : (.fieldLink "CellTests" (23 : Nat) "CellTests" "spanHigh" "I") ∈ cx_tbl := cx_inw 208 (by decide +kernel) (by decide +kernel)
theorem cw_176 : (.fieldLink "CellTests" (29 : Nat) "CellTests" "text" "LCellTests$RuleText;") ∈ cx_tbl := cx_inw 209 (by decide +kernel) (by decide +kernel)
theorem cw_177 : (.fieldLink "CellTests" (36 : Nat) "CellTests" "told" "LCellTests$RuleSet;") ∈ cx_tbl := cx_inw 210 (by decide +kernel) (by decide +kernel)
theorem cw_178 : (.fieldLink "CellTests" (40 : Nat) "CellTests" "spare" "LCellTests$RuleSet;") ∈ cx_tbl := cx_inw 211 (by decide +kernel) (by decide +kernel)
theorem cw_179 : (.fieldLink "CellTests" (46 : Nat) "CellTests" "packer" "LCellTests$Packer;") ∈ cx_tbl := cx_inw 212 (by decide +kernel) (by decide +kernel)
theorem cw_180 : (.fieldLink "CellTests" (53 : Nat) "CellTests" "fading" "LCellTests$FadeRows;") ∈ cx_tbl := cx_inw 213 (by decide +kernel) (by decide +kernel)
theorem cw_181 : (.fieldLink "CellTests" (60 : Nat) "CellTests" "line" "Ljava/lang/StringBuilder;") ∈ cx_tbl := cx_inw 214 (by decide +kernel) (by decide +kernel)
theorem cw_182 : (.laysFinal "CellTests" "CellTests" "cells" "[LCellTests$Cell;") ∈ cx_tbl := cx_inw 215 (by decide +kernel) (by decide +kernel)
theorem cw_184 : (.lays "CellTests" "CellTests" "count" "I") ∈ cx_tbl := cx_inw 217 (by decide +kernel) (by decide +kernel)
theorem cw_186 : (.lays "CellTests" "CellTests" "spanLow" "I") ∈ cx_tbl := cx_inw 219 (by decide +kernel) (by decide +kernel)
theorem cw_188 : (.lays "CellTests" "CellTests" "spanHigh" "I") ∈ cx_tbl := cx_inw 221 (by decide +kernel) (by decide +kernel)
theorem cw_190 : (.laysFinal "CellTests" "CellTests" "text" "LCellTests$RuleText;") ∈ cx_tbl := cx_inw 223 (by decide +kernel) (by decide +kernel)
theorem cw_192 : (.lays "CellTests" "CellTests" "told" "LCellTests$RuleSet;") ∈ cx_tbl := cx_inw 225 (by decide +kernel) (by decide +kernel)
theorem cw_194 : (.lays "CellTests" "CellTests" "spare" "LCellTests$RuleSet;") ∈ cx_tbl := cx_inw 227 (by decide +kernel) (by decide +kernel)
theorem cw_196 : (.laysFinal "CellTests" "CellTests" "packer" "LCellTests$Packer;") ∈ cx_tbl := cx_inw 229 (by decide +kernel) (by decide +kernel)
theorem cw_198 : (.laysFinal "CellTests" "CellTests" "fading" "LCellTests$FadeRows;") ∈ cx_tbl := cx_inw 231 (by decide +kernel) (by decide +kernel)
theorem cw_200 : (.laysFinal "CellTests" "CellTests" "line" "Ljava/lang/StringBuilder;") ∈ cx_tbl := cx_inw 233 (by decide +kernel) (by decide +kernel)
theorem cw_203 : (.methodLink "CellTestsLaw" (13 : Nat) ({ cls := "CellTests", name := "cell", desc := "()I" } : MethodName)) ∈ cx_tbl := cx_inw 236 (by decide +kernel) (by decide +kernel)
theorem cw_204 : (.instanceMethod ({ cls := "CellTests", name := "cell", desc := "()I" } : MethodName)) ∈ cx_tbl := cx_inw 237 (by decide +kernel) (by decide +kernel)
theorem cw_205 : (.selects "CellTests" ({ cls := "CellTests", name := "cell", desc := "()I" } : MethodName) ({ cls := "CellTests", name := "cell", desc := "()I" } : MethodName)) ∈ cx_tbl := cx_inw 238 (by decide +kernel) (by decide +kernel)
theorem cw_206 : (.code ({ cls := "CellTests", name := "cell", desc := "()I" } : MethodName) prog_1_method_2_code (1 : Nat) (Option.some .int)) ∈ cx_tbl := cx_inw 239 (by decide +kernel) (by decide +kernel)
theorem cw_207 : (.instantiable "CellTests$Cell" (12 : Nat)) ∈ cx_tbl := cx_inw 240 (by decide +kernel) (by decide +kernel)
theorem cn_208 : (.methodLinkNest "CellTests" (64 : Nat) ({ cls := "CellTests$Cell", name := "<init>", desc := "()V" } : MethodName) "CellTests") ∈ cx_nws := cx_inn 241 (by decide +kernel) (by decide +kernel)
theorem cw_209 : (.instanceMethod ({ cls := "CellTests$Cell", name := "<init>", desc := "()V" } : MethodName)) ∈ cx_tbl := cx_inw 242 (by decide +kernel) (by decide +kernel)
theorem cw_210 : (.code ({ cls := "CellTests$Cell", name := "<init>", desc := "()V" } : MethodName) prog_2_method_1_code (1 : Nat) (Option.none : Option Jvm.ClassFile.FieldType)) ∈ cx_tbl := cx_inw 243 (by decide +kernel) (by decide +kernel)
theorem cw_211 : (.methodLink "CellTests$Cell" (1 : Nat) ({ cls := "java/lang/Object", name := "<init>", desc := "()V" } : MethodName)) ∈ cx_tbl := cx_inw 244 (by decide +kernel) (by decide +kernel)
theorem cn_212 : (.fieldLinkNest "CellTests" (75 : Nat) "CellTests$Cell" "warmth" "I" "CellTests") ∈ cx_nws := cx_inn 245 (by decide +kernel) (by decide +kernel)
theorem cw_213 : (.fieldLink "CellTests$Cell" (7 : Nat) "CellTests$Cell" "steps" "I") ∈ cx_tbl := cx_inw 246 (by decide +kernel) (by decide +kernel)
theorem cw_214 : (.fieldLink "CellTests$Cell" (43 : Nat) "CellTests$Cell" "ampereSeconds" "J") ∈ cx_tbl := cx_inw 247 (by decide +kernel) (by decide +kernel)
theorem cw_215 : (.fieldLink "CellTests$Cell" (25 : Nat) "CellTests$Cell" "lastAmpere" "I") ∈ cx_tbl := cx_inw 248 (by decide +kernel) (by decide +kernel)
theorem cw_216 : (.fieldLink "CellTests$Cell" (28 : Nat) "CellTests$Cell" "lastStepVolt" "I") ∈ cx_tbl := cx_inw 249 (by decide +kernel) (by decide +kernel)
theorem cw_217 : (.fieldLink "CellTests$Cell" (37 : Nat) "CellTests$Cell" "voltChange" "I") ∈ cx_tbl := cx_inw 250 (by decide +kernel) (by decide +kernel)
theorem cn_218 : (.fieldLinkNest "CellTests" (102 : Nat) "CellTests$Cell" "voltChange" "I" "CellTests") ∈ cx_nws := cx_inn 251 (by decide +kernel) (by decide +kernel)
theorem cn_219 : (.fieldLinkNest "CellTests$RuleSet" (59 : Nat) "CellTests$Cell" "voltChange" "I" "CellTests") ∈ cx_nws := cx_inn 252 (by decide +kernel) (by decide +kernel)
theorem cw_220 : (.fieldLink "CellTests$Cell" (40 : Nat) "CellTests$Cell" "ampereChange" "I") ∈ cx_tbl := cx_inw 253 (by decide +kernel) (by decide +kernel)
theorem cn_221 : (.fieldLinkNest "CellTests" (105 : Nat) "CellTests$Cell" "ampereChange" "I" "CellTests") ∈ cx_nws := cx_inn 254 (by decide +kernel) (by decide +kernel)
theorem cn_222 : (.fieldLinkNest "CellTests$RuleSet" (56 : Nat) "CellTests$Cell" "ampereChange" "I" "CellTests") ∈ cx_nws := cx_inn 255 (by decide +kernel) (by decide +kernel)
theorem cw_223 : (.fieldLink "CellTests$Cell" (47 : Nat) "CellTests$Cell" "rests" "I") ∈ cx_tbl := cx_inw 256 (by decide +kernel) (by decide +kernel)
theorem cw_224 : (.fieldLink "CellTests$Cell" (53 : Nat) "CellTests$Cell" "firstDay" "I") ∈ cx_tbl := cx_inw 257 (by decide +kernel) (by decide +kernel)
theorem cw_225 : (.fieldLink "CellTests$Cell" (56 : Nat) "CellTests$Cell" "firstRestVolt" "I") ∈ cx_tbl := cx_inw 258 (by decide +kernel) (by decide +kernel)
theorem cw_226 : (.fieldLink "CellTests$Cell" (50 : Nat) "CellTests$Cell" "lastDay" "I") ∈ cx_tbl := cx_inw 259 (by decide +kernel) (by decide +kernel)
theorem cw_227 : (.fieldLink "CellTests$Cell" (59 : Nat) "CellTests$Cell" "lastRestVolt" "I") ∈ cx_tbl := cx_inw 260 (by decide +kernel) (by decide +kernel)
theorem cn_228 : (.fieldLinkNest "CellTests$RuleSet" (53 : Nat) "CellTests$Cell" "lastRestVolt" "I" "CellTests") ∈ cx_nws := cx_inn 261 (by decide +kernel) (by decide +kernel)
theorem cw_229 : (.lays "CellTests$Cell" "CellTests$Cell" "warmth" "I") ∈ cx_tbl := cx_inw 262 (by decide +kernel) (by decide +kernel)
theorem cw_231 : (.lays "CellTests$Cell" "CellTests$Cell" "steps" "I") ∈ cx_tbl := cx_inw 264 (by decide +kernel) (by decide +kernel)
theorem cw_233 : (.lays "CellTests$Cell" "CellTests$Cell" "ampereSeconds" "J") ∈ cx_tbl := cx_inw 266 (by decide +kernel) (by decide +kernel)
theorem cw_235 : (.lays "CellTests$Cell" "CellTests$Cell" "lastAmpere" "I") ∈ cx_tbl := cx_inw 268 (by decide +kernel) (by decide +kernel)
theorem cw_237 : (.lays "CellTests$Cell" "CellTests$Cell" "lastStepVolt" "I") ∈ cx_tbl := cx_inw 270 (by decide +kernel) (by decide +kernel)
theorem cw_239 : (.lays "CellTests$Cell" "CellTests$Cell" "voltChange" "I") ∈ cx_tbl := cx_inw 272 (by decide +kernel) (by decide +kernel)
theorem cw_241 : (.lays "CellTests$Cell" "CellTests$Cell" "ampereChange" "I") ∈ cx_tbl := cx_inw 274 (by decide +kernel) (by decide +kernel)
theorem cw_243 : (.lays "CellTests$Cell" "CellTests$Cell" "rests" "I") ∈ cx_tbl := cx_inw 276 (by decide +kernel) (by decide +kernel)
theorem cw_245 : (.lays "CellTests$Cell" "CellTests$Cell" "firstDay" "I") ∈ cx_tbl := cx_inw 278 (by decide +kernel) (by decide +kernel)
theorem cw_247 : (.lays "CellTests$Cell" "CellTests$Cell" "firstRestVolt" "I") ∈ cx_tbl := cx_inw 280 (by decide +kernel) (by decide +kernel)
theorem cw_249 : (.lays "CellTests$Cell" "CellTests$Cell" "lastDay" "I") ∈ cx_tbl := cx_inw 282 (by decide +kernel) (by decide +kernel)
theorem cw_251 : (.lays "CellTests$Cell" "CellTests$Cell" "lastRestVolt" "I") ∈ cx_tbl := cx_inw 284 (by decide +kernel) (by decide +kernel)
theorem cw_254 : (.methodLink "CellTestsLaw" (18 : Nat) ({ cls := "CellTests", name := "span", desc := "(II)Z" } : MethodName)) ∈ cx_tbl := cx_inw 287 (by decide +kernel) (by decide +kernel)
theorem cw_255 : (.instanceMethod ({ cls := "CellTests", name := "span", desc := "(II)Z" } : MethodName)) ∈ cx_tbl := cx_inw 288 (by decide +kernel) (by decide +kernel)
theorem cw_256 : (.selects "CellTests" ({ cls := "CellTests", name := "span", desc := "(II)Z" } : MethodName) ({ cls := "CellTests", name := "span", desc := "(II)Z" } : MethodName)) ∈ cx_tbl := cx_inw 289 (by decide +kernel) (by decide +kernel)
theorem cw_257 : (.code ({ cls := "CellTests", name := "span", desc := "(II)Z" } : MethodName) prog_1_method_3_code (3 : Nat) (Option.some .boolean)) ∈ cx_tbl := cx_inw 290 (by decide +kernel) (by decide +kernel)
theorem cw_258 : (.methodLink "CellTestsLaw" (23 : Nat) ({ cls := "CellTests", name := "warm", desc := "(II)Z" } : MethodName)) ∈ cx_tbl := cx_inw 291 (by decide +kernel) (by decide +kernel)
theorem cw_259 : (.instanceMethod ({ cls := "CellTests", name := "warm", desc := "(II)Z" } : MethodName)) ∈ cx_tbl := cx_inw 292 (by decide +kernel) (by decide +kernel)
theorem cw_260 : (.selects "CellTests" ({ cls := "CellTests", name := "warm", desc := "(II)Z" } : MethodName) ({ cls := "CellTests", name := "warm", desc := "(II)Z" } : MethodName)) ∈ cx_tbl := cx_inw 293 (by decide +kernel) (by decide +kernel)
theorem cw_261 : (.code ({ cls := "CellTests", name := "warm", desc := "(II)Z" } : MethodName) prog_1_method_4_code (4 : Nat) (Option.some .boolean)) ∈ cx_tbl := cx_inw 294 (by decide +kernel) (by decide +kernel)
theorem cw_262 : (.methodLink "CellTests" (65 : Nat) ({ cls := "CellTests", name := "cellOf", desc := "(I)LCellTests$Cell;" } : MethodName)) ∈ cx_tbl := cx_inw 295 (by decide +kernel) (by decide +kernel)
theorem cw_264 : (.instanceMethod ({ cls := "CellTests", name := "cellOf", desc := "(I)LCellTests$Cell;" } : MethodName)) ∈ cx_tbl := cx_inw 297 (by decide +kernel) (by decide +kernel)
theorem cw_265 : (.code ({ cls := "CellTests", name := "cellOf", desc := "(I)LCellTests$Cell;" } : MethodName) prog_1_method_20_code (2 : Nat) (Option.some (.object "CellTests$Cell"))) ∈ cx_tbl := cx_inw 298 (by decide +kernel) (by decide +kernel)
theorem cw_266 : (.constantLong "CellTests" (69 : Nat) (1000000 : Int64)) ∈ cx_tbl := cx_inw 299 (by decide +kernel) (by decide +kernel)
theorem cw_267 : (.methodLink "CellTests" (71 : Nat) ({ cls := "CellTests", name := "isWithin", desc := "(JJJ)Z" } : MethodName)) ∈ cx_tbl := cx_inw 300 (by decide +kernel) (by decide +kernel)
theorem cw_268 : (.static ({ cls := "CellTests", name := "isWithin", desc := "(JJJ)Z" } : MethodName)) ∈ cx_tbl := cx_inw 301 (by decide +kernel) (by decide +kernel)
theorem cw_269 : (.code ({ cls := "CellTests", name := "isWithin", desc := "(JJJ)Z" } : MethodName) prog_1_method_23_code (6 : Nat) (Option.some .boolean)) ∈ cx_tbl := cx_inw 302 (by decide +kernel) (by decide +kernel)
theorem cw_270 : (.methodLink "CellTests" (78 : Nat) ({ cls := "CellTests", name := "isInSpan", desc := "(LCellTests$Cell;)Z" } : MethodName)) ∈ cx_tbl := cx_inw 303 (by decide +kernel) (by decide +kernel)
theorem cw_272 : (.instanceMethod ({ cls := "CellTests", name := "isInSpan", desc := "(LCellTests$Cell;)Z" } : MethodName)) ∈ cx_tbl := cx_inw 305 (by decide +kernel) (by decide +kernel)
theorem cw_273 : (.code ({ cls := "CellTests", name := "isInSpan", desc := "(LCellTests$Cell;)Z" } : MethodName) prog_1_method_21_code (2 : Nat) (Option.some .boolean)) ∈ cx_tbl := cx_inw 306 (by decide +kernel) (by decide +kernel)
theorem cw_274 : (.methodLink "CellTestsLaw" (27 : Nat) ({ cls := "CellTests", name := "step", desc := "(IIII)Z" } : MethodName)) ∈ cx_tbl := cx_inw 307 (by decide +kernel) (by decide +kernel)
theorem cw_275 : (.instanceMethod ({ cls := "CellTests", name := "step", desc := "(IIII)Z" } : MethodName)) ∈ cx_tbl := cx_inw 308 (by decide +kernel) (by decide +kernel)
theorem cw_276 : (.selects "CellTests" ({ cls := "CellTests", name := "step", desc := "(IIII)Z" } : MethodName) ({ cls := "CellTests", name := "step", desc := "(IIII)Z" } : MethodName)) ∈ cx_tbl := cx_inw 309 (by decide +kernel) (by decide +kernel)
theorem cw_277 : (.code ({ cls := "CellTests", name := "step", desc := "(IIII)Z" } : MethodName) prog_1_method_5_code (6 : Nat) (Option.some .boolean)) ∈ cx_tbl := cx_inw 310 (by decide +kernel) (by decide +kernel)
theorem cw_278 : (.methodLink "CellTests" (82 : Nat) ({ cls := "CellTests$Cell", name := "addStep", desc := "(III)Z" } : MethodName)) ∈ cx_tbl := cx_inw 311 (by decide +kernel) (by decide +kernel)
theorem cw_279 : (.instanceMethod ({ cls := "CellTests$Cell", name := "addStep", desc := "(III)Z" } : MethodName)) ∈ cx_tbl := cx_inw 312 (by decide +kernel) (by decide +kernel)
theorem cw_280 : (.selects "CellTests$Cell" ({ cls := "CellTests$Cell", name := "addStep", desc := "(III)Z" } : MethodName) ({ cls := "CellTests$Cell", name := "addStep", desc := "(III)Z" } : MethodName)) ∈ cx_tbl := cx_inw 313 (by decide +kernel) (by decide +kernel)
theorem cw_281 : (.code ({ cls := "CellTests$Cell", name := "addStep", desc := "(III)Z" } : MethodName) prog_2_method_2_code (4 : Nat) (Option.some .boolean)) ∈ cx_tbl := cx_inw 314 (by decide +kernel) (by decide +kernel)
theorem cw_282 : (.constantLong "CellTests$Cell" (13 : Nat) (100000 : Int64)) ∈ cx_tbl := cx_inw 315 (by decide +kernel) (by decide +kernel)
theorem cn_283 : (.methodLinkNest "CellTests$Cell" (15 : Nat) ({ cls := "CellTests", name := "isWithin", desc := "(JJJ)Z" } : MethodName) "CellTests") ∈ cx_nws := cx_inn 316 (by decide +kernel) (by decide +kernel)
theorem cw_284 : (.constantLong "CellTests$Cell" (21 : Nat) (-100000 : Int64)) ∈ cx_tbl := cx_inw 317 (by decide +kernel) (by decide +kernel)
theorem cw_285 : (.constantLong "CellTests$Cell" (23 : Nat) (10000 : Int64)) ∈ cx_tbl := cx_inw 318 (by decide +kernel) (by decide +kernel)
theorem cw_286 : (.methodLink "CellTests$Cell" (31 : Nat) ({ cls := "java/lang/Math", name := "abs", desc := "(I)I" } : MethodName)) ∈ cx_tbl := cx_inw 319 (by decide +kernel) (by decide +kernel)
theorem cw_287 : (.static ({ cls := "java/lang/Math", name := "abs", desc := "(I)I" } : MethodName)) ∈ cx_tbl := cx_inw 320 (by decide +kernel) (by decide +kernel)
theorem cw_288 : (.code ({ cls := "java/lang/Math", name := "abs", desc := "(I)I" } : MethodName) prog_12_method_59_code (1 : Nat) (Option.some .int)) ∈ cx_tbl := cx_inw 321 (by decide +kernel) (by decide +kernel)
theorem cw_289 : (.methodLink "CellTestsLaw" (32 : Nat) ({ cls := "CellTests", name := "rest", desc := "(III)Z" } : MethodName)) ∈ cx_tbl := cx_inw 322 (by decide +kernel) (by decide +kernel)
theorem cw_290 : (.instanceMethod ({ cls := "CellTests", name := "rest", desc := "(III)Z" } : MethodName)) ∈ cx_tbl := cx_inw 323 (by decide +kernel) (by decide +kernel)
theorem cw_291 : (.selects "CellTests" ({ cls := "CellTests", name := "rest", desc := "(III)Z" } : MethodName) ({ cls := "CellTests", name := "rest", desc := "(III)Z" } : MethodName)) ∈ cx_tbl := cx_inw 324 (by decide +kernel) (by decide +kernel)
theorem cw_292 : (.code ({ cls := "CellTests", name := "rest", desc := "(III)Z" } : MethodName) prog_1_method_6_code (5 : Nat) (Option.some .boolean)) ∈ cx_tbl := cx_inw 325 (by decide +kernel) (by decide +kernel)
theorem cw_293 : (.methodLink "CellTests" (86 : Nat) ({ cls := "CellTests$Cell", name := "addRest", desc := "(II)Z" } : MethodName)) ∈ cx_tbl := cx_inw 326 (by decide +kernel) (by decide +kernel)
theorem cw_294 : (.instanceMethod ({ cls := "CellTests$Cell", name := "addRest", desc := "(II)Z" } : MethodName)) ∈ cx_tbl := cx_inw 327 (by decide +kernel) (by decide +kernel)
theorem cw_295 : (.selects "CellTests$Cell" ({ cls := "CellTests$Cell", name := "addRest", desc := "(II)Z" } : MethodName) ({ cls := "CellTests$Cell", name := "addRest", desc := "(II)Z" } : MethodName)) ∈ cx_tbl := cx_inw 328 (by decide +kernel) (by decide +kernel)
theorem cw_296 : (.code ({ cls := "CellTests$Cell", name := "addRest", desc := "(II)Z" } : MethodName) prog_2_method_3_code (3 : Nat) (Option.some .boolean)) ∈ cx_tbl := cx_inw 329 (by decide +kernel) (by decide +kernel)
theorem cw_297 : (.methodLink "CellTestsLaw" (37 : Nat) ({ cls := "CellTests", name := "charge", desc := "(I)J" } : MethodName)) ∈ cx_tbl := cx_inw 330 (by decide +kernel) (by decide +kernel)
theorem cw_298 : (.instanceMethod ({ cls := "CellTests", name := "charge", desc := "(I)J" } : MethodName)) ∈ cx_tbl := cx_inw 331 (by decide +kernel) (by decide +kernel)
theorem cw_299 : (.selects "CellTests" ({ cls := "CellTests", name := "charge", desc := "(I)J" } : MethodName) ({ cls := "CellTests", name := "charge", desc := "(I)J" } : MethodName)) ∈ cx_tbl := cx_inw 332 (by decide +kernel) (by decide +kernel)
theorem cw_300 : (.code ({ cls := "CellTests", name := "charge", desc := "(I)J" } : MethodName) prog_1_method_7_code (3 : Nat) (Option.some .long)) ∈ cx_tbl := cx_inw 333 (by decide +kernel) (by decide +kernel)
theorem cw_301 : (.constantLong "CellTests" (92 : Nat) (-9223372036854775808 : Int64)) ∈ cx_tbl := cx_inw 334 (by decide +kernel) (by decide +kernel)
theorem cw_302 : (.methodLink "CellTests" (94 : Nat) ({ cls := "CellTests$Cell", name := "chargeNow", desc := "()J" } : MethodName)) ∈ cx_tbl := cx_inw 335 (by decide +kernel) (by decide +kernel)
theorem cw_303 : (.instanceMethod ({ cls := "CellTests$Cell", name := "chargeNow", desc := "()J" } : MethodName)) ∈ cx_tbl := cx_inw 336 (by decide +kernel) (by decide +kernel)
theorem cw_304 : (.selects "CellTests$Cell" ({ cls := "CellTests$Cell", name := "chargeNow", desc := "()J" } : MethodName) ({ cls := "CellTests$Cell", name := "chargeNow", desc := "()J" } : MethodName)) ∈ cx_tbl := cx_inw 337 (by decide +kernel) (by decide +kernel)
theorem cw_305 : (.code ({ cls := "CellTests$Cell", name := "chargeNow", desc := "()J" } : MethodName) prog_2_method_4_code (1 : Nat) (Option.some .long)) ∈ cx_tbl := cx_inw 338 (by decide +kernel) (by decide +kernel)
theorem cw_306 : (.constantLong "CellTests$Cell" (62 : Nat) (3600 : Int64)) ∈ cx_tbl := cx_inw 339 (by decide +kernel) (by decide +kernel)
theorem cw_307 : (.methodLink "CellTests$Cell" (64 : Nat) ({ cls := "java/lang/Math", name := "floorDiv", desc := "(JJ)J" } : MethodName)) ∈ cx_tbl := cx_inw 340 (by decide +kernel) (by decide +kernel)
theorem cw_308 : (.static ({ cls := "java/lang/Math", name := "floorDiv", desc := "(JJ)J" } : MethodName)) ∈ cx_tbl := cx_inw 341 (by decide +kernel) (by decide +kernel)
theorem cw_309 : (.code ({ cls := "java/lang/Math", name := "floorDiv", desc := "(JJ)J" } : MethodName) prog_12_method_49_code (6 : Nat) (Option.some .long)) ∈ cx_tbl := cx_inw 342 (by decide +kernel) (by decide +kernel)
theorem cw_310 : (.methodLink "CellTestsLaw" (42 : Nat) ({ cls := "CellTests", name := "resistance", desc := "(II)I" } : MethodName)) ∈ cx_tbl := cx_inw 343 (by decide +kernel) (by decide +kernel)
theorem cw_311 : (.instanceMethod ({ cls := "CellTests", name := "resistance", desc := "(II)I" } : MethodName)) ∈ cx_tbl := cx_inw 344 (by decide +kernel) (by decide +kernel)
theorem cw_312 : (.selects "CellTests" ({ cls := "CellTests", name := "resistance", desc := "(II)I" } : MethodName) ({ cls := "CellTests", name := "resistance", desc := "(II)I" } : MethodName)) ∈ cx_tbl := cx_inw 345 (by decide +kernel) (by decide +kernel)
theorem cw_313 : (.code ({ cls := "CellTests", name := "resistance", desc := "(II)I" } : MethodName) prog_1_method_8_code (4 : Nat) (Option.some .int)) ∈ cx_tbl := cx_inw 346 (by decide +kernel) (by decide +kernel)
theorem cw_314 : (.methodLink "CellTests" (98 : Nat) ({ cls := "CellTests$Cell", name := "hasResistance", desc := "()Z" } : MethodName)) ∈ cx_tbl := cx_inw 347 (by decide +kernel) (by decide +kernel)
theorem cw_315 : (.instanceMethod ({ cls := "CellTests$Cell", name := "hasResistance", desc := "()Z" } : MethodName)) ∈ cx_tbl := cx_inw 348 (by decide +kernel) (by decide +kernel)
theorem cw_316 : (.selects "CellTests$Cell" ({ cls := "CellTests$Cell", name := "hasResistance", desc := "()Z" } : MethodName) ({ cls := "CellTests$Cell", name := "hasResistance", desc := "()Z" } : MethodName)) ∈ cx_tbl := cx_inw 349 (by decide +kernel) (by decide +kernel)
theorem cw_317 : (.code ({ cls := "CellTests$Cell", name := "hasResistance", desc := "()Z" } : MethodName) prog_2_method_5_code (1 : Nat) (Option.some .boolean)) ∈ cx_tbl := cx_inw 350 (by decide +kernel) (by decide +kernel)
theorem cw_318 : (.methodLink "CellTests" (108 : Nat) ({ cls := "CellTests", name := "partOf", desc := "(III)I" } : MethodName)) ∈ cx_tbl := cx_inw 351 (by decide +kernel) (by decide +kernel)
theorem cw_319 : (.static ({ cls := "CellTests", name := "partOf", desc := "(III)I" } : MethodName)) ∈ cx_tbl := cx_inw 352 (by decide +kernel) (by decide +kernel)
theorem cw_320 : (.code ({ cls := "CellTests", name := "partOf", desc := "(III)I" } : MethodName) prog_1_method_24_code (4 : Nat) (Option.some .int)) ∈ cx_tbl := cx_inw 353 (by decide +kernel) (by decide +kernel)
theorem cw_321 : (.methodLink "CellTests" (190 : Nat) ({ cls := "CellTests", name := "commonDivisor", desc := "(II)I" } : MethodName)) ∈ cx_tbl := cx_inw 354 (by decide +kernel) (by decide +kernel)
theorem cw_322 : (.static ({ cls := "CellTests", name := "commonDivisor", desc := "(II)I" } : MethodName)) ∈ cx_tbl := cx_inw 355 (by decide +kernel) (by decide +kernel)
theorem cw_323 : (.code ({ cls := "CellTests", name := "commonDivisor", desc := "(II)I" } : MethodName) prog_1_method_25_code (6 : Nat) (Option.some .int)) ∈ cx_tbl := cx_inw 356 (by decide +kernel) (by decide +kernel)
theorem cw_324 : (.methodLink "CellTestsLaw" (47 : Nat) ({ cls := "CellTests", name := "loss", desc := "(II)I" } : MethodName)) ∈ cx_tbl := cx_inw 357 (by decide +kernel) (by decide +kernel)
theorem cw_325 : (.instanceMethod ({ cls := "CellTests", name := "loss", desc := "(II)I" } : MethodName)) ∈ cx_tbl := cx_inw 358 (by decide +kernel) (by decide +kernel)
theorem cw_326 : (.selects "CellTests" ({ cls := "CellTests", name := "loss", desc := "(II)I" } : MethodName) ({ cls := "CellTests", name := "loss", desc := "(II)I" } : MethodName)) ∈ cx_tbl := cx_inw 359 (by decide +kernel) (by decide +kernel)
theorem cw_327 : (.code ({ cls := "CellTests", name := "loss", desc := "(II)I" } : MethodName) prog_1_method_9_code (4 : Nat) (Option.some .int)) ∈ cx_tbl := cx_inw 360 (by decide +kernel) (by decide +kernel)
theorem cw_328 : (.methodLink "CellTests" (112 : Nat) ({ cls := "CellTests$Cell", name := "hasLoss", desc := "()Z" } : MethodName)) ∈ cx_tbl := cx_inw 361 (by decide +kernel) (by decide +kernel)
theorem cw_329 : (.instanceMethod ({ cls := "CellTests$Cell", name := "hasLoss", desc := "()Z" } : MethodName)) ∈ cx_tbl := cx_inw 362 (by decide +kernel) (by decide +kernel)
theorem cw_330 : (.selects "CellTests$Cell" ({ cls := "CellTests$Cell", name := "hasLoss", desc := "()Z" } : MethodName) ({ cls := "CellTests$Cell", name := "hasLoss", desc := "()Z" } : MethodName)) ∈ cx_tbl := cx_inw 363 (by decide +kernel) (by decide +kernel)
theorem cw_331 : (.code ({ cls := "CellTests$Cell", name := "hasLoss", desc := "()Z" } : MethodName) prog_2_method_6_code (1 : Nat) (Option.some .boolean)) ∈ cx_tbl := cx_inw 364 (by decide +kernel) (by decide +kernel)
theorem cw_332 : (.methodLink "CellTests" (115 : Nat) ({ cls := "CellTests$Cell", name := "voltLost", desc := "()I" } : MethodName)) ∈ cx_tbl := cx_inw 365 (by decide +kernel) (by decide +kernel)
theorem cw_333 : (.instanceMethod ({ cls := "CellTests$Cell", name := "voltLost", desc := "()I" } : MethodName)) ∈ cx_tbl := cx_inw 366 (by decide +kernel) (by decide +kernel)
theorem cw_334 : (.selects "CellTests$Cell" ({ cls := "CellTests$Cell", name := "voltLost", desc := "()I" } : MethodName) ({ cls := "CellTests$Cell", name := "voltLost", desc := "()I" } : MethodName)) ∈ cx_tbl := cx_inw 367 (by decide +kernel) (by decide +kernel)
theorem cw_335 : (.code ({ cls := "CellTests$Cell", name := "voltLost", desc := "()I" } : MethodName) prog_2_method_7_code (1 : Nat) (Option.some .int)) ∈ cx_tbl := cx_inw 368 (by decide +kernel) (by decide +kernel)
theorem cw_336 : (.methodLink "CellTests$Cell" (68 : Nat) ({ cls := "java/lang/Math", name := "max", desc := "(II)I" } : MethodName)) ∈ cx_tbl := cx_inw 369 (by decide +kernel) (by decide +kernel)
theorem cw_337 : (.static ({ cls := "java/lang/Math", name := "max", desc := "(II)I" } : MethodName)) ∈ cx_tbl := cx_inw 370 (by decide +kernel) (by decide +kernel)
theorem cw_338 : (.code ({ cls := "java/lang/Math", name := "max", desc := "(II)I" } : MethodName) prog_12_method_65_code (2 : Nat) (Option.some .int)) ∈ cx_tbl := cx_inw 371 (by decide +kernel) (by decide +kernel)
theorem cw_339 : (.methodLink "CellTests" (119 : Nat) ({ cls := "CellTests$Cell", name := "daysBetween", desc := "()I" } : MethodName)) ∈ cx_tbl := cx_inw 372 (by decide +kernel) (by decide +kernel)
theorem cw_340 : (.instanceMethod ({ cls := "CellTests$Cell", name := "daysBetween", desc := "()I" } : MethodName)) ∈ cx_tbl := cx_inw 373 (by decide +kernel) (by decide +kernel)
theorem cw_341 : (.selects "CellTests$Cell" ({ cls := "CellTests$Cell", name := "daysBetween", desc := "()I" } : MethodName) ({ cls := "CellTests$Cell", name := "daysBetween", desc := "()I" } : MethodName)) ∈ cx_tbl := cx_inw 374 (by decide +kernel) (by decide +kernel)
theorem cw_342 : (.code ({ cls := "CellTests$Cell", name := "daysBetween", desc := "()I" } : MethodName) prog_2_method_8_code (1 : Nat) (Option.some .int)) ∈ cx_tbl := cx_inw 375 (by decide +kernel) (by decide +kernel)
theorem cw_343 : (.methodLink "CellTestsLaw" (51 : Nat) ({ cls := "CellTests", name := "unit", desc := "(I)Z" } : MethodName)) ∈ cx_tbl := cx_inw 376 (by decide +kernel) (by decide +kernel)
theorem cw_344 : (.instanceMethod ({ cls := "CellTests", name := "unit", desc := "(I)Z" } : MethodName)) ∈ cx_tbl := cx_inw 377 (by decide +kernel) (by decide +kernel)
theorem cw_345 : (.selects "CellTests" ({ cls := "CellTests", name := "unit", desc := "(I)Z" } : MethodName) ({ cls := "CellTests", name := "unit", desc := "(I)Z" } : MethodName)) ∈ cx_tbl := cx_inw 378 (by decide +kernel) (by decide +kernel)
theorem cw_346 : (.code ({ cls := "CellTests", name := "unit", desc := "(I)Z" } : MethodName) prog_1_method_10_code (2 : Nat) (Option.some .boolean)) ∈ cx_tbl := cx_inw 379 (by decide +kernel) (by decide +kernel)
theorem cw_347 : (.constantLong "CellTests" (122 : Nat) (255 : Int64)) ∈ cx_tbl := cx_inw 380 (by decide +kernel) (by decide +kernel)
theorem cw_348 : (.methodLink "CellTests" (124 : Nat) ({ cls := "CellTests$RuleText", name := "add", desc := "(C)Z" } : MethodName)) ∈ cx_tbl := cx_inw 381 (by decide +kernel) (by decide +kernel)
theorem cw_349 : (.instanceMethod ({ cls := "CellTests$RuleText", name := "add", desc := "(C)Z" } : MethodName)) ∈ cx_tbl := cx_inw 382 (by decide +kernel) (by decide +kernel)
theorem cw_350 : (.selects "CellTests$RuleText" ({ cls := "CellTests$RuleText", name := "add", desc := "(C)Z" } : MethodName) ({ cls := "CellTests$RuleText", name := "add", desc := "(C)Z" } : MethodName)) ∈ cx_tbl := cx_inw 383 (by decide +kernel) (by decide +kernel)
theorem cw_351 : (.code ({ cls := "CellTests$RuleText", name := "add", desc := "(C)Z" } : MethodName) prog_6_method_2_code (2 : Nat) (Option.some .boolean)) ∈ cx_tbl := cx_inw 384 (by decide +kernel) (by decide +kernel)
theorem cw_352 : (.methodLink "CellTestsLaw" (56 : Nat) ({ cls := "CellTests", name := "rules", desc := "()I" } : MethodName)) ∈ cx_tbl := cx_inw 385 (by decide +kernel) (by decide +kernel)
theorem cw_353 : (.instanceMethod ({ cls := "CellTests", name := "rules", desc := "()I" } : MethodName)) ∈ cx_tbl := cx_inw 386 (by decide +kernel) (by decide +kernel)
theorem cw_354 : (.selects "CellTests" ({ cls := "CellTests", name := "rules", desc := "()I" } : MethodName) ({ cls := "CellTests", name := "rules", desc := "()I" } : MethodName)) ∈ cx_tbl := cx_inw 387 (by decide +kernel) (by decide +kernel)
theorem cw_355 : (.code ({ cls := "CellTests", name := "rules", desc := "()I" } : MethodName) prog_1_method_11_code (3 : Nat) (Option.some .int)) ∈ cx_tbl := cx_inw 388 (by decide +kernel) (by decide +kernel)
theorem cw_356 : (.methodLink "CellTests" (128 : Nat) ({ cls := "CellTests$RuleText", name := "readInto", desc := "(LCellTests$RuleSet;)I" } : MethodName)) ∈ cx_tbl := cx_inw 389 (by decide +kernel) (by decide +kernel)
theorem cw_357 : (.instanceMethod ({ cls := "CellTests$RuleText", name := "readInto", desc := "(LCellTests$RuleSet;)I" } : MethodName)) ∈ cx_tbl := cx_inw 390 (by decide +kernel) (by decide +kernel)
theorem cw_358 : (.selects "CellTests$RuleText" ({ cls := "CellTests$RuleText", name := "readInto", desc := "(LCellTests$RuleSet;)I" } : MethodName) ({ cls := "CellTests$RuleText", name := "readInto", desc := "(LCellTests$RuleSet;)I" } : MethodName)) ∈ cx_tbl := cx_inw 391 (by decide +kernel) (by decide +kernel)
theorem cw_359 : (.code ({ cls := "CellTests$RuleText", name := "readInto", desc := "(LCellTests$RuleSet;)I" } : MethodName) prog_6_method_4_code (5 : Nat) (Option.some .int)) ∈ cx_tbl := cx_inw 392 (by decide +kernel) (by decide +kernel)
theorem cw_360 : (.methodLink "CellTests$RuleText" (19 : Nat) ({ cls := "CellTests$RuleSet", name := "clear", desc := "()V" } : MethodName)) ∈ cx_tbl := cx_inw 393 (by decide +kernel) (by decide +kernel)
theorem cw_361 : (.instanceMethod ({ cls := "CellTests$RuleSet", name := "clear", desc := "()V" } : MethodName)) ∈ cx_tbl := cx_inw 394 (by decide +kernel) (by decide +kernel)
theorem cw_362 : (.selects "CellTests$RuleSet" ({ cls := "CellTests$RuleSet", name := "clear", desc := "()V" } : MethodName) ({ cls := "CellTests$RuleSet", name := "clear", desc := "()V" } : MethodName)) ∈ cx_tbl := cx_inw 395 (by decide +kernel) (by decide +kernel)
theorem cw_363 : (.code ({ cls := "CellTests$RuleSet", name := "clear", desc := "()V" } : MethodName) prog_5_method_2_code (1 : Nat) (Option.none : Option Jvm.ClassFile.FieldType)) ∈ cx_tbl := cx_inw 396 (by decide +kernel) (by decide +kernel)
theorem cw_364 : (.methodLink "CellTests$RuleText" (27 : Nat) ({ cls := "CellTests$RuleText", name := "isBlank", desc := "(C)Z" } : MethodName)) ∈ cx_tbl := cx_inw 397 (by decide +kernel) (by decide +kernel)
theorem cw_365 : (.static ({ cls := "CellTests$RuleText", name := "isBlank", desc := "(C)Z" } : MethodName)) ∈ cx_tbl := cx_inw 398 (by decide +kernel) (by decide +kernel)
theorem cw_366 : (.code ({ cls := "CellTests$RuleText", name := "isBlank", desc := "(C)Z" } : MethodName) prog_6_method_5_code (1 : Nat) (Option.some .boolean)) ∈ cx_tbl := cx_inw 399 (by decide +kernel) (by decide +kernel)
theorem cw_367 : (.methodLink "CellTests$RuleText" (31 : Nat) ({ cls := "CellTests$RuleText", name := "takeWord", desc := "(LCellTests$RuleSet;II)Z" } : MethodName)) ∈ cx_tbl := cx_inw 400 (by decide +kernel) (by decide +kernel)
theorem cw_369 : (.instanceMethod ({ cls := "CellTests$RuleText", name := "takeWord", desc := "(LCellTests$RuleSet;II)Z" } : MethodName)) ∈ cx_tbl := cx_inw 402 (by decide +kernel) (by decide +kernel)
theorem cw_370 : (.code ({ cls := "CellTests$RuleText", name := "takeWord", desc := "(LCellTests$RuleSet;II)Z" } : MethodName) prog_6_method_6_code (4 : Nat) (Option.some .boolean)) ∈ cx_tbl := cx_inw 403 (by decide +kernel) (by decide +kernel)
theorem cw_371 : (.methodLink "CellTests$RuleText" (38 : Nat) ({ cls := "CellTests$RuleText", name := "takeClassWord", desc := "(LCellTests$RuleSet;II)Z" } : MethodName)) ∈ cx_tbl := cx_inw 404 (by decide +kernel) (by decide +kernel)
theorem cw_373 : (.instanceMethod ({ cls := "CellTests$RuleText", name := "takeClassWord", desc := "(LCellTests$RuleSet;II)Z" } : MethodName)) ∈ cx_tbl := cx_inw 406 (by decide +kernel) (by decide +kernel)
theorem cw_374 : (.code ({ cls := "CellTests$RuleText", name := "takeClassWord", desc := "(LCellTests$RuleSet;II)Z" } : MethodName) prog_6_method_7_code (4 : Nat) (Option.some .boolean)) ∈ cx_tbl := cx_inw 407 (by decide +kernel) (by decide +kernel)
theorem cw_375 : (.methodLink "CellTests$RuleText" (60 : Nat) ({ cls := "CellTests$RuleSet", name := "isFull", desc := "()Z" } : MethodName)) ∈ cx_tbl := cx_inw 408 (by decide +kernel) (by decide +kernel)
theorem cw_376 : (.instanceMethod ({ cls := "CellTests$RuleSet", name := "isFull", desc := "()Z" } : MethodName)) ∈ cx_tbl := cx_inw 409 (by decide +kernel) (by decide +kernel)
theorem cw_377 : (.selects "CellTests$RuleSet" ({ cls := "CellTests$RuleSet", name := "isFull", desc := "()Z" } : MethodName) ({ cls := "CellTests$RuleSet", name := "isFull", desc := "()Z" } : MethodName)) ∈ cx_tbl := cx_inw 410 (by decide +kernel) (by decide +kernel)
theorem cw_378 : (.code ({ cls := "CellTests$RuleSet", name := "isFull", desc := "()Z" } : MethodName) prog_5_method_3_code (1 : Nat) (Option.some .boolean)) ∈ cx_tbl := cx_inw 411 (by decide +kernel) (by decide +kernel)
theorem cw_379 : (.methodLink "CellTests$RuleText" (64 : Nat) ({ cls := "CellTests$RuleText", name := "isClassWord", desc := "(II)Z" } : MethodName)) ∈ cx_tbl := cx_inw 412 (by decide +kernel) (by decide +kernel)
theorem cw_381 : (.instanceMethod ({ cls := "CellTests$RuleText", name := "isClassWord", desc := "(II)Z" } : MethodName)) ∈ cx_tbl := cx_inw 414 (by decide +kernel) (by decide +kernel)
theorem cw_382 : (.code ({ cls := "CellTests$RuleText", name := "isClassWord", desc := "(II)Z" } : MethodName) prog_6_method_12_code (4 : Nat) (Option.some .boolean)) ∈ cx_tbl := cx_inw 415 (by decide +kernel) (by decide +kernel)
theorem cw_384 : (.methodLink "CellTests$RuleText" (92 : Nat) ({ cls := "java/lang/String", name := "length", desc := "()I" } : MethodName)) ∈ cx_tbl := cx_inw 417 (by decide +kernel) (by decide +kernel)
theorem cw_385 : (.instanceMethod ({ cls := "java/lang/String", name := "length", desc := "()I" } : MethodName)) ∈ cx_tbl := cx_inw 418 (by decide +kernel) (by decide +kernel)
theorem cw_386 : (.selects "java/lang/String" ({ cls := "java/lang/String", name := "length", desc := "()I" } : MethodName) ({ cls := "java/lang/String", name := "length", desc := "()I" } : MethodName)) ∈ cx_tbl := cx_inw 419 (by decide +kernel) (by decide +kernel)
theorem cw_387 : (.code ({ cls := "java/lang/String", name := "length", desc := "()I" } : MethodName) prog_13_method_54_code (1 : Nat) (Option.some .int)) ∈ cx_tbl := cx_inw 420 (by decide +kernel) (by decide +kernel)
theorem cw_388 : (.methodLink "java/lang/String" (335 : Nat) ({ cls := "java/lang/String", name := "coder", desc := "()B" } : MethodName)) ∈ cx_tbl := cx_inw 421 (by decide +kernel) (by decide +kernel)
theorem cw_389 : (.instanceMethod ({ cls := "java/lang/String", name := "coder", desc := "()B" } : MethodName)) ∈ cx_tbl := cx_inw 422 (by decide +kernel) (by decide +kernel)
theorem cw_390 : (.selects "java/lang/String" ({ cls := "java/lang/String", name := "coder", desc := "()B" } : MethodName) ({ cls := "java/lang/String", name := "coder", desc := "()B" } : MethodName)) ∈ cx_tbl := cx_inw 423 (by decide +kernel) (by decide +kernel)
theorem cw_391 : (.code ({ cls := "java/lang/String", name := "coder", desc := "()B" } : MethodName) prog_13_method_152_code (1 : Nat) (Option.some .byte)) ∈ cx_tbl := cx_inw 424 (by decide +kernel) (by decide +kernel)
theorem cw_392 : (.fieldLink "java/lang/String" (38 : Nat) "java/lang/String" "COMPACT_STRINGS" "Z") ∈ cx_tbl := cx_inw 425 (by decide +kernel) (by decide +kernel)
theorem cw_393 : (.methodLink "CellTests$RuleText" (97 : Nat) ({ cls := "java/lang/String", name := "charAt", desc := "(I)C" } : MethodName)) ∈ cx_tbl := cx_inw 426 (by decide +kernel) (by decide +kernel)
theorem cw_394 : (.instanceMethod ({ cls := "java/lang/String", name := "charAt", desc := "(I)C" } : MethodName)) ∈ cx_tbl := cx_inw 427 (by decide +kernel) (by decide +kernel)
theorem cw_395 : (.selects "java/lang/String" ({ cls := "java/lang/String", name := "charAt", desc := "(I)C" } : MethodName) ({ cls := "java/lang/String", name := "charAt", desc := "(I)C" } : MethodName)) ∈ cx_tbl := cx_inw 428 (by decide +kernel) (by decide +kernel)
theorem cw_396 : (.code ({ cls := "java/lang/String", name := "charAt", desc := "(I)C" } : MethodName) prog_13_method_56_code (2 : Nat) (Option.some .char)) ∈ cx_tbl := cx_inw 429 (by decide +kernel) (by decide +kernel)
theorem cw_397 : (.methodLink "java/lang/String" (492 : Nat) ({ cls := "java/lang/String", name := "isLatin1", desc := "()Z" } : MethodName)) ∈ cx_tbl := cx_inw 430 (by decide +kernel) (by decide +kernel)
theorem cw_398 : (.instanceMethod ({ cls := "java/lang/String", name := "isLatin1", desc := "()Z" } : MethodName)) ∈ cx_tbl := cx_inw 431 (by decide +kernel) (by decide +kernel)
theorem cw_399 : (.selects "java/lang/String" ({ cls := "java/lang/String", name := "isLatin1", desc := "()Z" } : MethodName) ({ cls := "java/lang/String", name := "isLatin1", desc := "()Z" } : MethodName)) ∈ cx_tbl := cx_inw 432 (by decide +kernel) (by decide +kernel)
theorem cw_400 : (.code ({ cls := "java/lang/String", name := "isLatin1", desc := "()Z" } : MethodName) prog_13_method_154_code (1 : Nat) (Option.some .boolean)) ∈ cx_tbl := cx_inw 433 (by decide +kernel) (by decide +kernel)
theorem cw_401 : (.methodLink "java/lang/String" (495 : Nat) ({ cls := "java/lang/StringLatin1", name := "charAt", desc := "([BI)C" } : MethodName)) ∈ cx_tbl := cx_inw 434 (by decide +kernel) (by decide +kernel)
theorem cw_402 : (.static ({ cls := "java/lang/StringLatin1", name := "charAt", desc := "([BI)C" } : MethodName)) ∈ cx_tbl := cx_inw 435 (by decide +kernel) (by decide +kernel)
theorem cw_403 : (.code ({ cls := "java/lang/StringLatin1", name := "charAt", desc := "([BI)C" } : MethodName) prog_15_method_2_code (2 : Nat) (Option.some .char)) ∈ cx_tbl := cx_inw 436 (by decide +kernel) (by decide +kernel)
theorem cw_404 : (.methodLink "java/lang/StringLatin1" (9 : Nat) ({ cls := "java/lang/String", name := "checkIndex", desc := "(II)V" } : MethodName)) ∈ cx_tbl := cx_inw 437 (by decide +kernel) (by decide +kernel)
theorem cw_405 : (.static ({ cls := "java/lang/String", name := "checkIndex", desc := "(II)V" } : MethodName)) ∈ cx_tbl := cx_inw 438 (by decide +kernel) (by decide +kernel)
theorem cw_406 : (.code ({ cls := "java/lang/String", name := "checkIndex", desc := "(II)V" } : MethodName) prog_13_method_155_code (2 : Nat) (Option.none : Option Jvm.ClassFile.FieldType)) ∈ cx_tbl := cx_inw 439 (by decide +kernel) (by decide +kernel)
theorem cw_407 : (.fieldLink "java/lang/String" (1053 : Nat) "jdk/internal/util/Preconditions" "SIOOBE_FORMATTER" "Ljava/util/function/BiFunction;") ∈ cx_tbl := cx_inw 440 (by decide +kernel) (by decide +kernel)
theorem cw_409 : (.methodLink "java/lang/String" (1059 : Nat) ({ cls := "jdk/internal/util/Preconditions", name := "checkIndex", desc := "(IILjava/util/function/BiFunction;)I" } : MethodName)) ∈ cx_tbl := cx_inw 442 (by decide +kernel) (by decide +kernel)
theorem cw_410 : (.static ({ cls := "jdk/internal/util/Preconditions", name := "checkIndex", desc := "(IILjava/util/function/BiFunction;)I" } : MethodName)) ∈ cx_tbl := cx_inw 443 (by decide +kernel) (by decide +kernel)
theorem cw_411 : (.code ({ cls := "jdk/internal/util/Preconditions", name := "checkIndex", desc := "(IILjava/util/function/BiFunction;)I" } : MethodName) prog_20_method_11_code (3 : Nat) (Option.some .int)) ∈ cx_tbl := cx_inw 444 (by decide +kernel) (by decide +kernel)
theorem cw_412 : (.methodLink "java/lang/String" (498 : Nat) ({ cls := "java/lang/StringUTF16", name := "charAt", desc := "([BI)C" } : MethodName)) ∈ cx_tbl := cx_inw 445 (by decide +kernel) (by decide +kernel)
theorem cw_413 : (.static ({ cls := "java/lang/StringUTF16", name := "charAt", desc := "([BI)C" } : MethodName)) ∈ cx_tbl := cx_inw 446 (by decide +kernel) (by decide +kernel)
theorem cw_414 : (.code ({ cls := "java/lang/StringUTF16", name := "charAt", desc := "([BI)C" } : MethodName) prog_16_method_83_code (2 : Nat) (Option.some .char)) ∈ cx_tbl := cx_inw 447 (by decide +kernel) (by decide +kernel)
theorem cw_415 : (.methodLink "java/lang/StringUTF16" (67 : Nat) ({ cls := "java/lang/StringUTF16", name := "checkIndex", desc := "(I[B)V" } : MethodName)) ∈ cx_tbl := cx_inw 448 (by decide +kernel) (by decide +kernel)
theorem cw_416 : (.static ({ cls := "java/lang/StringUTF16", name := "checkIndex", desc := "(I[B)V" } : MethodName)) ∈ cx_tbl := cx_inw 449 (by decide +kernel) (by decide +kernel)
theorem cw_417 : (.code ({ cls := "java/lang/StringUTF16", name := "checkIndex", desc := "(I[B)V" } : MethodName) prog_16_method_91_code (2 : Nat) (Option.none : Option Jvm.ClassFile.FieldType)) ∈ cx_tbl := cx_inw 450 (by decide +kernel) (by decide +kernel)
theorem cw_418 : (.methodLink "java/lang/StringUTF16" (48 : Nat) ({ cls := "java/lang/StringUTF16", name := "length", desc := "([B)I" } : MethodName)) ∈ cx_tbl := cx_inw 451 (by decide +kernel) (by decide +kernel)
theorem cw_419 : (.static ({ cls := "java/lang/StringUTF16", name := "length", desc := "([B)I" } : MethodName)) ∈ cx_tbl := cx_inw 452 (by decide +kernel) (by decide +kernel)
theorem cw_420 : (.code ({ cls := "java/lang/StringUTF16", name := "length", desc := "([B)I" } : MethodName) prog_16_method_6_code (1 : Nat) (Option.some .int)) ∈ cx_tbl := cx_inw 453 (by decide +kernel) (by decide +kernel)
theorem cw_421 : (.methodLink "java/lang/StringUTF16" (414 : Nat) ({ cls := "java/lang/String", name := "checkIndex", desc := "(II)V" } : MethodName)) ∈ cx_tbl := cx_inw 454 (by decide +kernel) (by decide +kernel)
theorem cw_422 : (.methodLink "java/lang/StringUTF16" (71 : Nat) ({ cls := "java/lang/StringUTF16", name := "getChar", desc := "([BI)C" } : MethodName)) ∈ cx_tbl := cx_inw 455 (by decide +kernel) (by decide +kernel)
theorem cw_423 : (.static ({ cls := "java/lang/StringUTF16", name := "getChar", desc := "([BI)C" } : MethodName)) ∈ cx_tbl := cx_inw 456 (by decide +kernel) (by decide +kernel)
theorem cw_424 : (.code ({ cls := "java/lang/StringUTF16", name := "getChar", desc := "([BI)C" } : MethodName) prog_16_method_5_code (2 : Nat) (Option.some .char)) ∈ cx_tbl := cx_inw 457 (by decide +kernel) (by decide +kernel)
theorem cw_425 : (.fieldLink "java/lang/StringUTF16" (44 : Nat) "java/lang/StringUTF16" "$assertionsDisabled" "Z") ∈ cx_tbl := cx_inw 458 (by decide +kernel) (by decide +kernel)
theorem cw_427 : (.fieldLink "java/lang/StringUTF16" (59 : Nat) "java/lang/StringUTF16" "HI_BYTE_SHIFT" "I") ∈ cx_tbl := cx_inw 460 (by decide +kernel) (by decide +kernel)
theorem cw_429 : (.fieldLink "java/lang/StringUTF16" (63 : Nat) "java/lang/StringUTF16" "LO_BYTE_SHIFT" "I") ∈ cx_tbl := cx_inw 462 (by decide +kernel) (by decide +kernel)
theorem cw_431 : (.methodLink "CellTests$RuleText" (41 : Nat) ({ cls := "CellTests$RuleText", name := "numberIn", desc := "(II)I" } : MethodName)) ∈ cx_tbl := cx_inw 464 (by decide +kernel) (by decide +kernel)
theorem cw_433 : (.instanceMethod ({ cls := "CellTests$RuleText", name := "numberIn", desc := "(II)I" } : MethodName)) ∈ cx_tbl := cx_inw 466 (by decide +kernel) (by decide +kernel)
theorem cw_434 : (.code ({ cls := "CellTests$RuleText", name := "numberIn", desc := "(II)I" } : MethodName) prog_6_method_13_code (7 : Nat) (Option.some .int)) ∈ cx_tbl := cx_inw 467 (by decide +kernel) (by decide +kernel)
theorem cw_435 : (.constant "CellTests$RuleText" (82 : Nat) (-2147483648 : Int32)) ∈ cx_tbl := cx_inw 468 (by decide +kernel) (by decide +kernel)
theorem cw_436 : (.constantLong "CellTests$RuleText" (101 : Nat) (6 : Int64)) ∈ cx_tbl := cx_inw 469 (by decide +kernel) (by decide +kernel)
theorem cn_437 : (.methodLinkNest "CellTests$RuleText" (69 : Nat) ({ cls := "CellTests", name := "isWithin", desc := "(JJJ)Z" } : MethodName) "CellTests") ∈ cx_nws := cx_inn 470 (by decide +kernel) (by decide +kernel)
theorem cw_438 : (.constantLong "CellTests$RuleText" (103 : Nat) (48 : Int64)) ∈ cx_tbl := cx_inw 471 (by decide +kernel) (by decide +kernel)
theorem cw_439 : (.constantLong "CellTests$RuleText" (105 : Nat) (57 : Int64)) ∈ cx_tbl := cx_inw 472 (by decide +kernel) (by decide +kernel)
theorem cw_440 : (.methodLink "CellTests$RuleText" (45 : Nat) ({ cls := "CellTests$RuleText", name := "takeClassNumber", desc := "(LCellTests$RuleSet;I)Z" } : MethodName)) ∈ cx_tbl := cx_inw 473 (by decide +kernel) (by decide +kernel)
theorem cw_442 : (.instanceMethod ({ cls := "CellTests$RuleText", name := "takeClassNumber", desc := "(LCellTests$RuleSet;I)Z" } : MethodName)) ∈ cx_tbl := cx_inw 475 (by decide +kernel) (by decide +kernel)
theorem cw_443 : (.code ({ cls := "CellTests$RuleText", name := "takeClassNumber", desc := "(LCellTests$RuleSet;I)Z" } : MethodName) prog_6_method_8_code (3 : Nat) (Option.some .boolean)) ∈ cx_tbl := cx_inw 476 (by decide +kernel) (by decide +kernel)
theorem cw_444 : (.constantLong "CellTests$RuleText" (67 : Nat) (98 : Int64)) ∈ cx_tbl := cx_inw 477 (by decide +kernel) (by decide +kernel)
theorem cw_445 : (.methodLink "CellTests$RuleText" (75 : Nat) ({ cls := "CellTests$RuleSet", name := "addSentence", desc := "(I)Z" } : MethodName)) ∈ cx_tbl := cx_inw 478 (by decide +kernel) (by decide +kernel)
theorem cw_446 : (.instanceMethod ({ cls := "CellTests$RuleSet", name := "addSentence", desc := "(I)Z" } : MethodName)) ∈ cx_tbl := cx_inw 479 (by decide +kernel) (by decide +kernel)
theorem cw_447 : (.selects "CellTests$RuleSet" ({ cls := "CellTests$RuleSet", name := "addSentence", desc := "(I)Z" } : MethodName) ({ cls := "CellTests$RuleSet", name := "addSentence", desc := "(I)Z" } : MethodName)) ∈ cx_tbl := cx_inw 480 (by decide +kernel) (by decide +kernel)
theorem cw_448 : (.code ({ cls := "CellTests$RuleSet", name := "addSentence", desc := "(I)Z" } : MethodName) prog_5_method_4_code (2 : Nat) (Option.some .boolean)) ∈ cx_tbl := cx_inw 481 (by decide +kernel) (by decide +kernel)
theorem cw_449 : (.methodLink "CellTests$RuleText" (49 : Nat) ({ cls := "CellTests$RuleText", name := "takeLetter", desc := "(II)Z" } : MethodName)) ∈ cx_tbl := cx_inw 482 (by decide +kernel) (by decide +kernel)
theorem cw_451 : (.instanceMethod ({ cls := "CellTests$RuleText", name := "takeLetter", desc := "(II)Z" } : MethodName)) ∈ cx_tbl := cx_inw 484 (by decide +kernel) (by decide +kernel)
theorem cw_452 : (.code ({ cls := "CellTests$RuleText", name := "takeLetter", desc := "(II)Z" } : MethodName) prog_6_method_9_code (4 : Nat) (Option.some .boolean)) ∈ cx_tbl := cx_inw 485 (by decide +kernel) (by decide +kernel)
theorem cw_453 : (.methodLink "CellTests$RuleText" (53 : Nat) ({ cls := "CellTests$RuleText", name := "takeLow", desc := "(I)Z" } : MethodName)) ∈ cx_tbl := cx_inw 486 (by decide +kernel) (by decide +kernel)
theorem cw_455 : (.instanceMethod ({ cls := "CellTests$RuleText", name := "takeLow", desc := "(I)Z" } : MethodName)) ∈ cx_tbl := cx_inw 488 (by decide +kernel) (by decide +kernel)
theorem cw_456 : (.code ({ cls := "CellTests$RuleText", name := "takeLow", desc := "(I)Z" } : MethodName) prog_6_method_10_code (2 : Nat) (Option.some .boolean)) ∈ cx_tbl := cx_inw 489 (by decide +kernel) (by decide +kernel)
theorem cw_457 : (.methodLink "CellTests$RuleText" (57 : Nat) ({ cls := "CellTests$RuleText", name := "takeHigh", desc := "(LCellTests$RuleSet;I)Z" } : MethodName)) ∈ cx_tbl := cx_inw 490 (by decide +kernel) (by decide +kernel)
theorem cw_459 : (.instanceMethod ({ cls := "CellTests$RuleText", name := "takeHigh", desc := "(LCellTests$RuleSet;I)Z" } : MethodName)) ∈ cx_tbl := cx_inw 492 (by decide +kernel) (by decide +kernel)
theorem cw_460 : (.code ({ cls := "CellTests$RuleText", name := "takeHigh", desc := "(LCellTests$RuleSet;I)Z" } : MethodName) prog_6_method_11_code (3 : Nat) (Option.some .boolean)) ∈ cx_tbl := cx_inw 493 (by decide +kernel) (by decide +kernel)
theorem cw_461 : (.methodLink "CellTests$RuleText" (86 : Nat) ({ cls := "CellTests$RuleSet", name := "addClause", desc := "(CII)Z" } : MethodName)) ∈ cx_tbl := cx_inw 494 (by decide +kernel) (by decide +kernel)
theorem cw_462 : (.instanceMethod ({ cls := "CellTests$RuleSet", name := "addClause", desc := "(CII)Z" } : MethodName)) ∈ cx_tbl := cx_inw 495 (by decide +kernel) (by decide +kernel)
theorem cw_463 : (.selects "CellTests$RuleSet" ({ cls := "CellTests$RuleSet", name := "addClause", desc := "(CII)Z" } : MethodName) ({ cls := "CellTests$RuleSet", name := "addClause", desc := "(CII)Z" } : MethodName)) ∈ cx_tbl := cx_inw 496 (by decide +kernel) (by decide +kernel)
theorem cw_464 : (.code ({ cls := "CellTests$RuleSet", name := "addClause", desc := "(CII)Z" } : MethodName) prog_5_method_5_code (4 : Nat) (Option.some .boolean)) ∈ cx_tbl := cx_inw 497 (by decide +kernel) (by decide +kernel)
theorem cw_465 : (.methodLink "CellTests" (132 : Nat) ({ cls := "CellTests$RuleText", name := "clear", desc := "()V" } : MethodName)) ∈ cx_tbl := cx_inw 498 (by decide +kernel) (by decide +kernel)
theorem cw_466 : (.instanceMethod ({ cls := "CellTests$RuleText", name := "clear", desc := "()V" } : MethodName)) ∈ cx_tbl := cx_inw 499 (by decide +kernel) (by decide +kernel)
theorem cw_467 : (.selects "CellTests$RuleText" ({ cls := "CellTests$RuleText", name := "clear", desc := "()V" } : MethodName) ({ cls := "CellTests$RuleText", name := "clear", desc := "()V" } : MethodName)) ∈ cx_tbl := cx_inw 500 (by decide +kernel) (by decide +kernel)
theorem cw_468 : (.code ({ cls := "CellTests$RuleText", name := "clear", desc := "()V" } : MethodName) prog_6_method_3_code (1 : Nat) (Option.none : Option Jvm.ClassFile.FieldType)) ∈ cx_tbl := cx_inw 501 (by decide +kernel) (by decide +kernel)
theorem cw_469 : (.methodLink "CellTestsLaw" (60 : Nat) ({ cls := "CellTests", name := "cls", desc := "(I)I" } : MethodName)) ∈ cx_tbl := cx_inw 502 (by decide +kernel) (by decide +kernel)
theorem cw_470 : (.instanceMethod ({ cls := "CellTests", name := "cls", desc := "(I)I" } : MethodName)) ∈ cx_tbl := cx_inw 503 (by decide +kernel) (by decide +kernel)
theorem cw_471 : (.selects "CellTests" ({ cls := "CellTests", name := "cls", desc := "(I)I" } : MethodName) ({ cls := "CellTests", name := "cls", desc := "(I)I" } : MethodName)) ∈ cx_tbl := cx_inw 504 (by decide +kernel) (by decide +kernel)
theorem cw_472 : (.code ({ cls := "CellTests", name := "cls", desc := "(I)I" } : MethodName) prog_1_method_12_code (2 : Nat) (Option.some .int)) ∈ cx_tbl := cx_inw 505 (by decide +kernel) (by decide +kernel)
theorem cw_473 : (.methodLink "CellTests" (135 : Nat) ({ cls := "CellTests", name := "classOf", desc := "(LCellTests$Cell;)I" } : MethodName)) ∈ cx_tbl := cx_inw 506 (by decide +kernel) (by decide +kernel)
theorem cw_475 : (.instanceMethod ({ cls := "CellTests", name := "classOf", desc := "(LCellTests$Cell;)I" } : MethodName)) ∈ cx_tbl := cx_inw 508 (by decide +kernel) (by decide +kernel)
theorem cw_476 : (.code ({ cls := "CellTests", name := "classOf", desc := "(LCellTests$Cell;)I" } : MethodName) prog_1_method_22_code (2 : Nat) (Option.some .int)) ∈ cx_tbl := cx_inw 509 (by decide +kernel) (by decide +kernel)
theorem cw_477 : (.methodLink "CellTests" (144 : Nat) ({ cls := "CellTests$Cell", name := "isOpen", desc := "()Z" } : MethodName)) ∈ cx_tbl := cx_inw 510 (by decide +kernel) (by decide +kernel)
theorem cw_478 : (.instanceMethod ({ cls := "CellTests$Cell", name := "isOpen", desc := "()Z" } : MethodName)) ∈ cx_tbl := cx_inw 511 (by decide +kernel) (by decide +kernel)
theorem cw_479 : (.selects "CellTests$Cell" ({ cls := "CellTests$Cell", name := "isOpen", desc := "()Z" } : MethodName) ({ cls := "CellTests$Cell", name := "isOpen", desc := "()Z" } : MethodName)) ∈ cx_tbl := cx_inw 512 (by decide +kernel) (by decide +kernel)
theorem cw_480 : (.code ({ cls := "CellTests$Cell", name := "isOpen", desc := "()Z" } : MethodName) prog_2_method_9_code (1 : Nat) (Option.some .boolean)) ∈ cx_tbl := cx_inw 513 (by decide +kernel) (by decide +kernel)
theorem cw_481 : (.methodLink "CellTests" (187 : Nat) ({ cls := "CellTests$RuleSet", name := "firstThatHolds", desc := "(LCellTests$Cell;)I" } : MethodName)) ∈ cx_tbl := cx_inw 514 (by decide +kernel) (by decide +kernel)
theorem cw_482 : (.instanceMethod ({ cls := "CellTests$RuleSet", name := "firstThatHolds", desc := "(LCellTests$Cell;)I" } : MethodName)) ∈ cx_tbl := cx_inw 515 (by decide +kernel) (by decide +kernel)
theorem cw_483 : (.selects "CellTests$RuleSet" ({ cls := "CellTests$RuleSet", name := "firstThatHolds", desc := "(LCellTests$Cell;)I" } : MethodName) ({ cls := "CellTests$RuleSet", name := "firstThatHolds", desc := "(LCellTests$Cell;)I" } : MethodName)) ∈ cx_tbl := cx_inw 516 (by decide +kernel) (by decide +kernel)
theorem cw_484 : (.code ({ cls := "CellTests$RuleSet", name := "firstThatHolds", desc := "(LCellTests$Cell;)I" } : MethodName) prog_5_method_6_code (5 : Nat) (Option.some .int)) ∈ cx_tbl := cx_inw 517 (by decide +kernel) (by decide +kernel)
theorem cw_485 : (.methodLink "CellTests$RuleSet" (35 : Nat) ({ cls := "CellTests$RuleSet", name := "allHold", desc := "(LCellTests$Cell;II)Z" } : MethodName)) ∈ cx_tbl := cx_inw 518 (by decide +kernel) (by decide +kernel)
theorem cw_487 : (.instanceMethod ({ cls := "CellTests$RuleSet", name := "allHold", desc := "(LCellTests$Cell;II)Z" } : MethodName)) ∈ cx_tbl := cx_inw 520 (by decide +kernel) (by decide +kernel)
theorem cw_488 : (.code ({ cls := "CellTests$RuleSet", name := "allHold", desc := "(LCellTests$Cell;II)Z" } : MethodName) prog_5_method_7_code (5 : Nat) (Option.some .boolean)) ∈ cx_tbl := cx_inw 521 (by decide +kernel) (by decide +kernel)
theorem cw_489 : (.methodLink "CellTests$RuleSet" (39 : Nat) ({ cls := "CellTests$RuleSet", name := "holds", desc := "(LCellTests$Cell;I)Z" } : MethodName)) ∈ cx_tbl := cx_inw 522 (by decide +kernel) (by decide +kernel)
theorem cw_491 : (.instanceMethod ({ cls := "CellTests$RuleSet", name := "holds", desc := "(LCellTests$Cell;I)Z" } : MethodName)) ∈ cx_tbl := cx_inw 524 (by decide +kernel) (by decide +kernel)
theorem cw_492 : (.code ({ cls := "CellTests$RuleSet", name := "holds", desc := "(LCellTests$Cell;I)Z" } : MethodName) prog_5_method_8_code (3 : Nat) (Option.some .boolean)) ∈ cx_tbl := cx_inw 525 (by decide +kernel) (by decide +kernel)
theorem cw_493 : (.methodLink "CellTests$RuleSet" (43 : Nat) ({ cls := "CellTests$Cell", name := "chargeNow", desc := "()J" } : MethodName)) ∈ cx_tbl := cx_inw 526 (by decide +kernel) (by decide +kernel)
theorem cn_494 : (.methodLinkNest "CellTests$RuleSet" (49 : Nat) ({ cls := "CellTests", name := "isWithin", desc := "(JJJ)Z" } : MethodName) "CellTests") ∈ cx_nws := cx_inn 527 (by decide +kernel) (by decide +kernel)
theorem cw_495 : (.methodLink "CellTestsLaw" (65 : Nat) ({ cls := "CellTests", name := "\x75nsafe", desc := "(I)Z" } : MethodName)) ∈ cx_tbl := cx_inw 528 (by decide +kernel) (by decide +kernel)
theorem cw_496 : (.instanceMethod ({ cls := "CellTests", name := "\x75nsafe", desc := "(I)Z" } : MethodName)) ∈ cx_tbl := cx_inw 529 (by decide +kernel) (by decide +kernel)
theorem cw_497 : (.selects "CellTests" ({ cls := "CellTests", name := "\x75nsafe", desc := "(I)Z" } : MethodName) ({ cls := "CellTests", name := "\x75nsafe", desc := "(I)Z" } : MethodName)) ∈ cx_tbl := cx_inw 530 (by decide +kernel) (by decide +kernel)
theorem cw_498 : (.code ({ cls := "CellTests", name := "\x75nsafe", desc := "(I)Z" } : MethodName) prog_1_method_13_code (3 : Nat) (Option.some .boolean)) ∈ cx_tbl := cx_inw 531 (by decide +kernel) (by decide +kernel)
theorem cw_499 : (.methodLink "CellTests" (139 : Nat) ({ cls := "CellTests$Cell", name := "isUnsafe", desc := "()Z" } : MethodName)) ∈ cx_tbl := cx_inw 532 (by decide +kernel) (by decide +kernel)
theorem cw_500 : (.instanceMethod ({ cls := "CellTests$Cell", name := "isUnsafe", desc := "()Z" } : MethodName)) ∈ cx_tbl := cx_inw 533 (by decide +kernel) (by decide +kernel)
theorem cw_501 : (.selects "CellTests$Cell" ({ cls := "CellTests$Cell", name := "isUnsafe", desc := "()Z" } : MethodName) ({ cls := "CellTests$Cell", name := "isUnsafe", desc := "()Z" } : MethodName)) ∈ cx_tbl := cx_inw 534 (by decide +kernel) (by decide +kernel)
theorem cw_502 : (.code ({ cls := "CellTests$Cell", name := "isUnsafe", desc := "()Z" } : MethodName) prog_2_method_10_code (3 : Nat) (Option.some .boolean)) ∈ cx_tbl := cx_inw 535 (by decide +kernel) (by decide +kernel)
theorem cw_503 : (.constantLong "CellTests$Cell" (72 : Nat) (1000 : Int64)) ∈ cx_tbl := cx_inw 536 (by decide +kernel) (by decide +kernel)
theorem cw_504 : (.constantLong "CellTests$Cell" (74 : Nat) (4500 : Int64)) ∈ cx_tbl := cx_inw 537 (by decide +kernel) (by decide +kernel)
theorem cw_505 : (.methodLink "CellTestsLaw" (69 : Nat) ({ cls := "CellTests", name := "may", desc := "(II)Z" } : MethodName)) ∈ cx_tbl := cx_inw 538 (by decide +kernel) (by decide +kernel)
theorem cw_506 : (.instanceMethod ({ cls := "CellTests", name := "may", desc := "(II)Z" } : MethodName)) ∈ cx_tbl := cx_inw 539 (by decide +kernel) (by decide +kernel)
theorem cw_507 : (.selects "CellTests" ({ cls := "CellTests", name := "may", desc := "(II)Z" } : MethodName) ({ cls := "CellTests", name := "may", desc := "(II)Z" } : MethodName)) ∈ cx_tbl := cx_inw 540 (by decide +kernel) (by decide +kernel)
theorem cw_508 : (.code ({ cls := "CellTests", name := "may", desc := "(II)Z" } : MethodName) prog_1_method_14_code (4 : Nat) (Option.some .boolean)) ∈ cx_tbl := cx_inw 541 (by decide +kernel) (by decide +kernel)
theorem cw_509 : (.constantLong "CellTests" (142 : Nat) (4 : Int64)) ∈ cx_tbl := cx_inw 542 (by decide +kernel) (by decide +kernel)
theorem cw_510 : (.methodLink "CellTestsLaw" (73 : Nat) ({ cls := "CellTests", name := "pack", desc := "(II)J" } : MethodName)) ∈ cx_tbl := cx_inw 543 (by decide +kernel) (by decide +kernel)
theorem cw_511 : (.instanceMethod ({ cls := "CellTests", name := "pack", desc := "(II)J" } : MethodName)) ∈ cx_tbl := cx_inw 544 (by decide +kernel) (by decide +kernel)
theorem cw_512 : (.selects "CellTests" ({ cls := "CellTests", name := "pack", desc := "(II)J" } : MethodName) ({ cls := "CellTests", name := "pack", desc := "(II)J" } : MethodName)) ∈ cx_tbl := cx_inw 545 (by decide +kernel) (by decide +kernel)
theorem cw_513 : (.code ({ cls := "CellTests", name := "pack", desc := "(II)J" } : MethodName) prog_1_method_15_code (5 : Nat) (Option.some .long)) ∈ cx_tbl := cx_inw 546 (by decide +kernel) (by decide +kernel)
theorem cw_514 : (.constantLong "CellTests" (147 : Nat) (-1 : Int64)) ∈ cx_tbl := cx_inw 547 (by decide +kernel) (by decide +kernel)
theorem cw_515 : (.methodLink "CellTests" (149 : Nat) ({ cls := "CellTests$Packer", name := "clear", desc := "()V" } : MethodName)) ∈ cx_tbl := cx_inw 548 (by decide +kernel) (by decide +kernel)
theorem cw_516 : (.instanceMethod ({ cls := "CellTests$Packer", name := "clear", desc := "()V" } : MethodName)) ∈ cx_tbl := cx_inw 549 (by decide +kernel) (by decide +kernel)
theorem cw_517 : (.selects "CellTests$Packer" ({ cls := "CellTests$Packer", name := "clear", desc := "()V" } : MethodName) ({ cls := "CellTests$Packer", name := "clear", desc := "()V" } : MethodName)) ∈ cx_tbl := cx_inw 550 (by decide +kernel) (by decide +kernel)
theorem cw_518 : (.code ({ cls := "CellTests$Packer", name := "clear", desc := "()V" } : MethodName) prog_4_method_2_code (1 : Nat) (Option.none : Option Jvm.ClassFile.FieldType)) ∈ cx_tbl := cx_inw 551 (by decide +kernel) (by decide +kernel)
theorem cw_519 : (.methodLink "CellTests" (150 : Nat) ({ cls := "CellTests$Packer", name := "add", desc := "(IJ)V" } : MethodName)) ∈ cx_tbl := cx_inw 552 (by decide +kernel) (by decide +kernel)
theorem cw_520 : (.instanceMethod ({ cls := "CellTests$Packer", name := "add", desc := "(IJ)V" } : MethodName)) ∈ cx_tbl := cx_inw 553 (by decide +kernel) (by decide +kernel)
theorem cw_521 : (.selects "CellTests$Packer" ({ cls := "CellTests$Packer", name := "add", desc := "(IJ)V" } : MethodName) ({ cls := "CellTests$Packer", name := "add", desc := "(IJ)V" } : MethodName)) ∈ cx_tbl := cx_inw 554 (by decide +kernel) (by decide +kernel)
theorem cw_522 : (.code ({ cls := "CellTests$Packer", name := "add", desc := "(IJ)V" } : MethodName) prog_4_method_3_code (4 : Nat) (Option.none : Option Jvm.ClassFile.FieldType)) ∈ cx_tbl := cx_inw 555 (by decide +kernel) (by decide +kernel)
theorem cw_523 : (.methodLink "CellTests" (153 : Nat) ({ cls := "CellTests$Packer", name := "search", desc := "(II)J" } : MethodName)) ∈ cx_tbl := cx_inw 556 (by decide +kernel) (by decide +kernel)
theorem cw_524 : (.instanceMethod ({ cls := "CellTests$Packer", name := "search", desc := "(II)J" } : MethodName)) ∈ cx_tbl := cx_inw 557 (by decide +kernel) (by decide +kernel)
theorem cw_525 : (.selects "CellTests$Packer" ({ cls := "CellTests$Packer", name := "search", desc := "(II)J" } : MethodName) ({ cls := "CellTests$Packer", name := "search", desc := "(II)J" } : MethodName)) ∈ cx_tbl := cx_inw 558 (by decide +kernel) (by decide +kernel)
theorem cw_526 : (.code ({ cls := "CellTests$Packer", name := "search", desc := "(II)J" } : MethodName) prog_4_method_5_code (4 : Nat) (Option.some .long)) ∈ cx_tbl := cx_inw 559 (by decide +kernel) (by decide +kernel)
theorem cw_527 : (.constantLong "CellTests$Packer" (38 : Nat) (-1 : Int64)) ∈ cx_tbl := cx_inw 560 (by decide +kernel) (by decide +kernel)
theorem cw_528 : (.constantLong "CellTests$Packer" (48 : Nat) (9223372036854775807 : Int64)) ∈ cx_tbl := cx_inw 561 (by decide +kernel) (by decide +kernel)
theorem cw_529 : (.methodLink "CellTests$Packer" (54 : Nat) ({ cls := "CellTests$Packer", name := "place", desc := "(IIIJ)V" } : MethodName)) ∈ cx_tbl := cx_inw 562 (by decide +kernel) (by decide +kernel)
theorem cw_531 : (.instanceMethod ({ cls := "CellTests$Packer", name := "place", desc := "(IIIJ)V" } : MethodName)) ∈ cx_tbl := cx_inw 564 (by decide +kernel) (by decide +kernel)
theorem cw_532 : (.code ({ cls := "CellTests$Packer", name := "place", desc := "(IIIJ)V" } : MethodName) prog_4_method_6_code (7 : Nat) (Option.none : Option Jvm.ClassFile.FieldType)) ∈ cx_tbl := cx_inw 565 (by decide +kernel) (by decide +kernel)
theorem cw_533 : (.methodLink "CellTests$Packer" (58 : Nat) ({ cls := "CellTests$Packer", name := "keep", desc := "(J)V" } : MethodName)) ∈ cx_tbl := cx_inw 566 (by decide +kernel) (by decide +kernel)
theorem cw_535 : (.instanceMethod ({ cls := "CellTests$Packer", name := "keep", desc := "(J)V" } : MethodName)) ∈ cx_tbl := cx_inw 568 (by decide +kernel) (by decide +kernel)
theorem cw_536 : (.code ({ cls := "CellTests$Packer", name := "keep", desc := "(J)V" } : MethodName) prog_4_method_8_code (5 : Nat) (Option.none : Option Jvm.ClassFile.FieldType)) ∈ cx_tbl := cx_inw 569 (by decide +kernel) (by decide +kernel)
theorem cw_537 : (.methodLink "CellTests$Packer" (62 : Nat) ({ cls := "CellTests$Packer", name := "placeIn", desc := "(IIIIJ)V" } : MethodName)) ∈ cx_tbl := cx_inw 570 (by decide +kernel) (by decide +kernel)
theorem cw_539 : (.instanceMethod ({ cls := "CellTests$Packer", name := "placeIn", desc := "(IIIIJ)V" } : MethodName)) ∈ cx_tbl := cx_inw 572 (by decide +kernel) (by decide +kernel)
theorem cw_540 : (.code ({ cls := "CellTests$Packer", name := "placeIn", desc := "(IIIIJ)V" } : MethodName) prog_4_method_7_code (16 : Nat) (Option.none : Option Jvm.ClassFile.FieldType)) ∈ cx_tbl := cx_inw 573 (by decide +kernel) (by decide +kernel)
theorem cw_541 : (.methodLink "CellTests$Packer" (66 : Nat) ({ cls := "java/lang/Math", name := "min", desc := "(JJ)J" } : MethodName)) ∈ cx_tbl := cx_inw 574 (by decide +kernel) (by decide +kernel)
theorem cw_542 : (.static ({ cls := "java/lang/Math", name := "min", desc := "(JJ)J" } : MethodName)) ∈ cx_tbl := cx_inw 575 (by decide +kernel) (by decide +kernel)
theorem cw_543 : (.code ({ cls := "java/lang/Math", name := "min", desc := "(JJ)J" } : MethodName) prog_12_method_70_code (4 : Nat) (Option.some .long)) ∈ cx_tbl := cx_inw 576 (by decide +kernel) (by decide +kernel)
theorem cw_544 : (.methodLink "CellTests$Packer" (72 : Nat) ({ cls := "java/lang/Math", name := "max", desc := "(JJ)J" } : MethodName)) ∈ cx_tbl := cx_inw 577 (by decide +kernel) (by decide +kernel)
theorem cw_545 : (.static ({ cls := "java/lang/Math", name := "max", desc := "(JJ)J" } : MethodName)) ∈ cx_tbl := cx_inw 578 (by decide +kernel) (by decide +kernel)
theorem cw_546 : (.code ({ cls := "java/lang/Math", name := "max", desc := "(JJ)J" } : MethodName) prog_12_method_66_code (4 : Nat) (Option.some .long)) ∈ cx_tbl := cx_inw 579 (by decide +kernel) (by decide +kernel)
theorem cw_547 : (.methodLink "CellTestsLaw" (78 : Nat) ({ cls := "CellTests", name := "packOf", desc := "(I)I" } : MethodName)) ∈ cx_tbl := cx_inw 580 (by decide +kernel) (by decide +kernel)
theorem cw_548 : (.instanceMethod ({ cls := "CellTests", name := "packOf", desc := "(I)I" } : MethodName)) ∈ cx_tbl := cx_inw 581 (by decide +kernel) (by decide +kernel)
theorem cw_549 : (.selects "CellTests" ({ cls := "CellTests", name := "packOf", desc := "(I)I" } : MethodName) ({ cls := "CellTests", name := "packOf", desc := "(I)I" } : MethodName)) ∈ cx_tbl := cx_inw 582 (by decide +kernel) (by decide +kernel)
theorem cw_550 : (.code ({ cls := "CellTests", name := "packOf", desc := "(I)I" } : MethodName) prog_1_method_16_code (2 : Nat) (Option.some .int)) ∈ cx_tbl := cx_inw 583 (by decide +kernel) (by decide +kernel)
theorem cw_551 : (.methodLink "CellTests" (157 : Nat) ({ cls := "CellTests$Packer", name := "foundFor", desc := "(I)I" } : MethodName)) ∈ cx_tbl := cx_inw 584 (by decide +kernel) (by decide +kernel)
theorem cw_552 : (.instanceMethod ({ cls := "CellTests$Packer", name := "foundFor", desc := "(I)I" } : MethodName)) ∈ cx_tbl := cx_inw 585 (by decide +kernel) (by decide +kernel)
theorem cw_553 : (.selects "CellTests$Packer" ({ cls := "CellTests$Packer", name := "foundFor", desc := "(I)I" } : MethodName) ({ cls := "CellTests$Packer", name := "foundFor", desc := "(I)I" } : MethodName)) ∈ cx_tbl := cx_inw 586 (by decide +kernel) (by decide +kernel)
theorem cw_554 : (.code ({ cls := "CellTests$Packer", name := "foundFor", desc := "(I)I" } : MethodName) prog_4_method_4_code (2 : Nat) (Option.some .int)) ∈ cx_tbl := cx_inw 587 (by decide +kernel) (by decide +kernel)
theorem cw_555 : (.methodLink "CellTestsLaw" (82 : Nat) ({ cls := "CellTests", name := "row", desc := "(II)Z" } : MethodName)) ∈ cx_tbl := cx_inw 588 (by decide +kernel) (by decide +kernel)
theorem cw_556 : (.instanceMethod ({ cls := "CellTests", name := "row", desc := "(II)Z" } : MethodName)) ∈ cx_tbl := cx_inw 589 (by decide +kernel) (by decide +kernel)
theorem cw_557 : (.selects "CellTests" ({ cls := "CellTests", name := "row", desc := "(II)Z" } : MethodName) ({ cls := "CellTests", name := "row", desc := "(II)Z" } : MethodName)) ∈ cx_tbl := cx_inw 590 (by decide +kernel) (by decide +kernel)
theorem cw_558 : (.code ({ cls := "CellTests", name := "row", desc := "(II)Z" } : MethodName) prog_1_method_17_code (3 : Nat) (Option.some .boolean)) ∈ cx_tbl := cx_inw 591 (by decide +kernel) (by decide +kernel)
theorem cw_559 : (.methodLink "CellTests" (161 : Nat) ({ cls := "CellTests$FadeRows", name := "add", desc := "(II)Z" } : MethodName)) ∈ cx_tbl := cx_inw 592 (by decide +kernel) (by decide +kernel)
theorem cw_560 : (.instanceMethod ({ cls := "CellTests$FadeRows", name := "add", desc := "(II)Z" } : MethodName)) ∈ cx_tbl := cx_inw 593 (by decide +kernel) (by decide +kernel)
theorem cw_561 : (.selects "CellTests$FadeRows" ({ cls := "CellTests$FadeRows", name := "add", desc := "(II)Z" } : MethodName) ({ cls := "CellTests$FadeRows", name := "add", desc := "(II)Z" } : MethodName)) ∈ cx_tbl := cx_inw 594 (by decide +kernel) (by decide +kernel)
theorem cw_562 : (.code ({ cls := "CellTests$FadeRows", name := "add", desc := "(II)Z" } : MethodName) prog_3_method_2_code (3 : Nat) (Option.some .boolean)) ∈ cx_tbl := cx_inw 595 (by decide +kernel) (by decide +kernel)
theorem cw_563 : (.constantLong "CellTests$FadeRows" (22 : Nat) (10000 : Int64)) ∈ cx_tbl := cx_inw 596 (by decide +kernel) (by decide +kernel)
theorem cn_564 : (.methodLinkNest "CellTests$FadeRows" (24 : Nat) ({ cls := "CellTests", name := "isWithin", desc := "(JJJ)Z" } : MethodName) "CellTests") ∈ cx_nws := cx_inn 597 (by decide +kernel) (by decide +kernel)
theorem cw_565 : (.constantLong "CellTests$FadeRows" (28 : Nat) (1000 : Int64)) ∈ cx_tbl := cx_inw 598 (by decide +kernel) (by decide +kernel)
theorem cw_566 : (.methodLink "CellTestsLaw" (86 : Nat) ({ cls := "CellTests", name := "fade", desc := "(II)J" } : MethodName)) ∈ cx_tbl := cx_inw 599 (by decide +kernel) (by decide +kernel)
theorem cw_567 : (.instanceMethod ({ cls := "CellTests", name := "fade", desc := "(II)J" } : MethodName)) ∈ cx_tbl := cx_inw 600 (by decide +kernel) (by decide +kernel)
theorem cw_568 : (.selects "CellTests" ({ cls := "CellTests", name := "fade", desc := "(II)J" } : MethodName) ({ cls := "CellTests", name := "fade", desc := "(II)J" } : MethodName)) ∈ cx_tbl := cx_inw 601 (by decide +kernel) (by decide +kernel)
theorem cw_569 : (.code ({ cls := "CellTests", name := "fade", desc := "(II)J" } : MethodName) prog_1_method_18_code (4 : Nat) (Option.some .long)) ∈ cx_tbl := cx_inw 602 (by decide +kernel) (by decide +kernel)
theorem cw_570 : (.constantLong "CellTests" (163 : Nat) (10000 : Int64)) ∈ cx_tbl := cx_inw 603 (by decide +kernel) (by decide +kernel)
theorem cw_571 : (.methodLink "CellTests" (165 : Nat) ({ cls := "CellTests$FadeRows", name := "leftOf", desc := "(JI)J" } : MethodName)) ∈ cx_tbl := cx_inw 604 (by decide +kernel) (by decide +kernel)
theorem cw_572 : (.instanceMethod ({ cls := "CellTests$FadeRows", name := "leftOf", desc := "(JI)J" } : MethodName)) ∈ cx_tbl := cx_inw 605 (by decide +kernel) (by decide +kernel)
theorem cw_573 : (.selects "CellTests$FadeRows" ({ cls := "CellTests$FadeRows", name := "leftOf", desc := "(JI)J" } : MethodName) ({ cls := "CellTests$FadeRows", name := "leftOf", desc := "(JI)J" } : MethodName)) ∈ cx_tbl := cx_inw 606 (by decide +kernel) (by decide +kernel)
theorem cw_574 : (.code ({ cls := "CellTests$FadeRows", name := "leftOf", desc := "(JI)J" } : MethodName) prog_3_method_3_code (8 : Nat) (Option.some .long)) ∈ cx_tbl := cx_inw 607 (by decide +kernel) (by decide +kernel)
theorem cw_575 : (.methodLink "CellTests$FadeRows" (30 : Nat) ({ cls := "java/lang/Math", name := "min", desc := "(II)I" } : MethodName)) ∈ cx_tbl := cx_inw 608 (by decide +kernel) (by decide +kernel)
theorem cw_576 : (.static ({ cls := "java/lang/Math", name := "min", desc := "(II)I" } : MethodName)) ∈ cx_tbl := cx_inw 609 (by decide +kernel) (by decide +kernel)
theorem cw_577 : (.code ({ cls := "java/lang/Math", name := "min", desc := "(II)I" } : MethodName) prog_12_method_69_code (2 : Nat) (Option.some .int)) ∈ cx_tbl := cx_inw 610 (by decide +kernel) (by decide +kernel)
theorem cw_578 : (.methodLink "CellTests$FadeRows" (36 : Nat) ({ cls := "CellTests$FadeRows", name := "fadeBy", desc := "(JII)J" } : MethodName)) ∈ cx_tbl := cx_inw 611 (by decide +kernel) (by decide +kernel)
theorem cw_579 : (.static ({ cls := "CellTests$FadeRows", name := "fadeBy", desc := "(JII)J" } : MethodName)) ∈ cx_tbl := cx_inw 612 (by decide +kernel) (by decide +kernel)
theorem cw_580 : (.code ({ cls := "CellTests$FadeRows", name := "fadeBy", desc := "(JII)J" } : MethodName) prog_3_method_4_code (9 : Nat) (Option.some .long)) ∈ cx_tbl := cx_inw 613 (by decide +kernel) (by decide +kernel)
theorem cw_581 : (.methodLink "CellTestsLaw" (90 : Nat) ({ cls := "CellTests", name := "record", desc := "(II)I" } : MethodName)) ∈ cx_tbl := cx_inw 614 (by decide +kernel) (by decide +kernel)
theorem cw_582 : (.instanceMethod ({ cls := "CellTests", name := "record", desc := "(II)I" } : MethodName)) ∈ cx_tbl := cx_inw 615 (by decide +kernel) (by decide +kernel)
theorem cw_583 : (.selects "CellTests" ({ cls := "CellTests", name := "record", desc := "(II)I" } : MethodName) ({ cls := "CellTests", name := "record", desc := "(II)I" } : MethodName)) ∈ cx_tbl := cx_inw 616 (by decide +kernel) (by decide +kernel)
theorem cw_584 : (.code ({ cls := "CellTests", name := "record", desc := "(II)I" } : MethodName) prog_1_method_19_code (4 : Nat) (Option.some .int)) ∈ cx_tbl := cx_inw 617 (by decide +kernel) (by decide +kernel)
theorem cw_585 : (.methodLink "CellTests" (169 : Nat) ({ cls := "java/lang/StringBuilder", name := "setLength", desc := "(I)V" } : MethodName)) ∈ cx_tbl := cx_inw 618 (by decide +kernel) (by decide +kernel)
theorem cw_586 : (.instanceMethod ({ cls := "java/lang/StringBuilder", name := "setLength", desc := "(I)V" } : MethodName)) ∈ cx_tbl := cx_inw 619 (by decide +kernel) (by decide +kernel)
theorem cw_587 : (.selects "java/lang/StringBuilder" ({ cls := "java/lang/StringBuilder", name := "setLength", desc := "(I)V" } : MethodName) ({ cls := "java/lang/StringBuilder", name := "setLength", desc := "(I)V" } : MethodName)) ∈ cx_tbl := cx_inw 620 (by decide +kernel) (by decide +kernel)
theorem cw_588 : (.code ({ cls := "java/lang/StringBuilder", name := "setLength", desc := "(I)V" } : MethodName) prog_14_method_89_code (2 : Nat) (Option.none : Option Jvm.ClassFile.FieldType)) ∈ cx_tbl := cx_inw 621 (by decide +kernel) (by decide +kernel)
theorem cw_589 : (.methodLink "java/lang/StringBuilder" (333 : Nat) ({ cls := "java/lang/AbstractStringBuilder", name := "setLength", desc := "(I)V" } : MethodName)) ∈ cx_tbl := cx_inw 622 (by decide +kernel) (by decide +kernel)
theorem cw_590 : (.instanceMethod ({ cls := "java/lang/AbstractStringBuilder", name := "setLength", desc := "(I)V" } : MethodName)) ∈ cx_tbl := cx_inw 623 (by decide +kernel) (by decide +kernel)
theorem cw_591 : (.code ({ cls := "java/lang/AbstractStringBuilder", name := "setLength", desc := "(I)V" } : MethodName) prog_9_method_13_code (2 : Nat) (Option.none : Option Jvm.ClassFile.FieldType)) ∈ cx_tbl := cx_inw 624 (by decide +kernel) (by decide +kernel)
theorem cw_592 : (.methodLink "java/lang/AbstractStringBuilder" (100 : Nat) ({ cls := "java/lang/AbstractStringBuilder", name := "ensureCapacityInternal", desc := "(I)V" } : MethodName)) ∈ cx_tbl := cx_inw 625 (by decide +kernel) (by decide +kernel)
theorem cw_594 : (.instanceMethod ({ cls := "java/lang/AbstractStringBuilder", name := "ensureCapacityInternal", desc := "(I)V" } : MethodName)) ∈ cx_tbl := cx_inw 627 (by decide +kernel) (by decide +kernel)
theorem cw_595 : (.code ({ cls := "java/lang/AbstractStringBuilder", name := "ensureCapacityInternal", desc := "(I)V" } : MethodName) prog_9_method_9_code (3 : Nat) (Option.none : Option Jvm.ClassFile.FieldType)) ∈ cx_tbl := cx_inw 628 (by decide +kernel) (by decide +kernel)
theorem cw_596 : (.methodLink "java/lang/AbstractStringBuilder" (104 : Nat) ({ cls := "java/lang/AbstractStringBuilder", name := "newCapacity", desc := "(I)I" } : MethodName)) ∈ cx_tbl := cx_inw 629 (by decide +kernel) (by decide +kernel)
theorem cw_598 : (.instanceMethod ({ cls := "java/lang/AbstractStringBuilder", name := "newCapacity", desc := "(I)I" } : MethodName)) ∈ cx_tbl := cx_inw 631 (by decide +kernel) (by decide +kernel)
theorem cw_599 : (.code ({ cls := "java/lang/AbstractStringBuilder", name := "newCapacity", desc := "(I)I" } : MethodName) prog_9_method_10_code (6 : Nat) (Option.some .int)) ∈ cx_tbl := cx_inw 632 (by decide +kernel) (by decide +kernel)
theorem cw_600 : (.methodLink "java/lang/AbstractStringBuilder" (114 : Nat) ({ cls := "jdk/internal/util/ArraysSupport", name := "newLength", desc := "(III)I" } : MethodName)) ∈ cx_tbl := cx_inw 633 (by decide +kernel) (by decide +kernel)
theorem cw_601 : (.static ({ cls := "jdk/internal/util/ArraysSupport", name := "newLength", desc := "(III)I" } : MethodName)) ∈ cx_tbl := cx_inw 634 (by decide +kernel) (by decide +kernel)
theorem cw_602 : (.code ({ cls := "jdk/internal/util/ArraysSupport", name := "newLength", desc := "(III)I" } : MethodName) prog_19_method_27_code (4 : Nat) (Option.some .int)) ∈ cx_tbl := cx_inw 635 (by decide +kernel) (by decide +kernel)
theorem cw_603 : (.methodLink "jdk/internal/util/ArraysSupport" (194 : Nat) ({ cls := "java/lang/Math", name := "max", desc := "(II)I" } : MethodName)) ∈ cx_tbl := cx_inw 636 (by decide +kernel) (by decide +kernel)
theorem cw_604 : (.constant "jdk/internal/util/ArraysSupport" (200 : Nat) (2147483639 : Int32)) ∈ cx_tbl := cx_inw 637 (by decide +kernel) (by decide +kernel)
theorem cw_605 : (.methodLink "jdk/internal/util/ArraysSupport" (201 : Nat) ({ cls := "jdk/internal/util/ArraysSupport", name := "hugeLength", desc := "(II)I" } : MethodName)) ∈ cx_tbl := cx_inw 638 (by decide +kernel) (by decide +kernel)
theorem cw_606 : (.static ({ cls := "jdk/internal/util/ArraysSupport", name := "hugeLength", desc := "(II)I" } : MethodName)) ∈ cx_tbl := cx_inw 639 (by decide +kernel) (by decide +kernel)
theorem cw_607 : (.code ({ cls := "jdk/internal/util/ArraysSupport", name := "hugeLength", desc := "(II)I" } : MethodName) prog_19_method_28_code (3 : Nat) (Option.some .int)) ∈ cx_tbl := cx_inw 640 (by decide +kernel) (by decide +kernel)
theorem cw_608 : (.constant "java/lang/AbstractStringBuilder" (39 : Nat) (2147483647 : Int32)) ∈ cx_tbl := cx_inw 641 (by decide +kernel) (by decide +kernel)
theorem cw_609 : (.methodLink "java/lang/AbstractStringBuilder" (108 : Nat) ({ cls := "java/util/Arrays", name := "copyOf", desc := "([BI)[B" } : MethodName)) ∈ cx_tbl := cx_inw 642 (by decide +kernel) (by decide +kernel)
theorem cw_610 : (.static ({ cls := "java/util/Arrays", name := "copyOf", desc := "([BI)[B" } : MethodName)) ∈ cx_tbl := cx_inw 643 (by decide +kernel) (by decide +kernel)
theorem cw_611 : (.code ({ cls := "java/util/Arrays", name := "copyOf", desc := "([BI)[B" } : MethodName) prog_18_method_121_code (3 : Nat) (Option.some (.array .byte))) ∈ cx_tbl := cx_inw 644 (by decide +kernel) (by decide +kernel)
theorem cw_612 : (.methodLink "java/util/Arrays" (310 : Nat) ({ cls := "[B", name := "clone", desc := "()Ljava/lang/Object;" } : MethodName)) ∈ cx_tbl := cx_inw 645 (by decide +kernel) (by decide +kernel)
theorem cw_613 : (.sameMethod "[B" "java/lang/Object" "clone" "()Ljava/lang/Object;") ∈ cx_tbl := cx_inw 646 (by decide +kernel) (by decide +kernel)
theorem cw_614 : (.native ({ cls := "java/lang/Object", name := "clone", desc := "()Ljava/lang/Object;" } : MethodName)) ∈ cx_tbl := cx_inw 647 (by decide +kernel) (by decide +kernel)
theorem cw_615 : (.instanceMethod ({ cls := "java/lang/Object", name := "clone", desc := "()Ljava/lang/Object;" } : MethodName)) ∈ cx_tbl := cx_inw 648 (by decide +kernel) (by decide +kernel)
theorem cw_616 : (.selects "[B" ({ cls := "[B", name := "clone", desc := "()Ljava/lang/Object;" } : MethodName) ({ cls := "java/lang/Object", name := "clone", desc := "()Ljava/lang/Object;" } : MethodName)) ∈ cx_tbl := cx_inw 649 (by decide +kernel) (by decide +kernel)
theorem cw_618 : (.classLink "java/util/Arrays" (311 : Nat) "[B") ∈ cx_tbl := cx_inw 651 (by decide +kernel) (by decide +kernel)
theorem cw_619 : (.methodLink "java/util/Arrays" (304 : Nat) ({ cls := "java/lang/Math", name := "min", desc := "(II)I" } : MethodName)) ∈ cx_tbl := cx_inw 652 (by decide +kernel) (by decide +kernel)
theorem cw_620 : (.methodLink "java/util/Arrays" (150 : Nat) ({ cls := "java/lang/System", name := "arraycopy", desc := "(Ljava/lang/Object;ILjava/lang/Object;II)V" } : MethodName)) ∈ cx_tbl := cx_inw 653 (by decide +kernel) (by decide +kernel)
theorem cw_621 : (.static ({ cls := "java/lang/System", name := "arraycopy", desc := "(Ljava/lang/Object;ILjava/lang/Object;II)V" } : MethodName)) ∈ cx_tbl := cx_inw 654 (by decide +kernel) (by decide +kernel)
theorem cw_622 : (.native ({ cls := "java/lang/System", name := "arraycopy", desc := "(Ljava/lang/Object;ILjava/lang/Object;II)V" } : MethodName)) ∈ cx_tbl := cx_inw 655 (by decide +kernel) (by decide +kernel)
theorem cw_623 : (.methodLink "java/lang/AbstractStringBuilder" (83 : Nat) ({ cls := "java/lang/AbstractStringBuilder", name := "isLatin1", desc := "()Z" } : MethodName)) ∈ cx_tbl := cx_inw 656 (by decide +kernel) (by decide +kernel)
theorem cw_624 : (.instanceMethod ({ cls := "java/lang/AbstractStringBuilder", name := "isLatin1", desc := "()Z" } : MethodName)) ∈ cx_tbl := cx_inw 657 (by decide +kernel) (by decide +kernel)
theorem cw_625 : (.sameMethod "java/lang/AbstractStringBuilder" "java/lang/AbstractStringBuilder" "isLatin1" "()Z") ∈ cx_tbl := cx_inw 658 (by decide +kernel) (by decide +kernel)
theorem cw_626 : (.selects "java/lang/StringBuilder" ({ cls := "java/lang/AbstractStringBuilder", name := "isLatin1", desc := "()Z" } : MethodName) ({ cls := "java/lang/AbstractStringBuilder", name := "isLatin1", desc := "()Z" } : MethodName)) ∈ cx_tbl := cx_inw 659 (by decide +kernel) (by decide +kernel)
theorem cw_627 : (.code ({ cls := "java/lang/AbstractStringBuilder", name := "isLatin1", desc := "()Z" } : MethodName) prog_9_method_68_code (1 : Nat) (Option.some .boolean)) ∈ cx_tbl := cx_inw 660 (by decide +kernel) (by decide +kernel)
theorem cw_628 : (.methodLink "java/lang/AbstractStringBuilder" (133 : Nat) ({ cls := "java/lang/StringLatin1", name := "fillNull", desc := "([BII)V" } : MethodName)) ∈ cx_tbl := cx_inw 661 (by decide +kernel) (by decide +kernel)
theorem cw_629 : (.static ({ cls := "java/lang/StringLatin1", name := "fillNull", desc := "([BII)V" } : MethodName)) ∈ cx_tbl := cx_inw 662 (by decide +kernel) (by decide +kernel)
theorem cw_630 : (.code ({ cls := "java/lang/StringLatin1", name := "fillNull", desc := "([BII)V" } : MethodName) prog_15_method_48_code (3 : Nat) (Option.none : Option Jvm.ClassFile.FieldType)) ∈ cx_tbl := cx_inw 663 (by decide +kernel) (by decide +kernel)
theorem cw_631 : (.methodLink "java/lang/StringLatin1" (236 : Nat) ({ cls := "java/util/Arrays", name := "fill", desc := "([BIIB)V" } : MethodName)) ∈ cx_tbl := cx_inw 664 (by decide +kernel) (by decide +kernel)
theorem cw_632 : (.static ({ cls := "java/util/Arrays", name := "fill", desc := "([BIIB)V" } : MethodName)) ∈ cx_tbl := cx_inw 665 (by decide +kernel) (by decide +kernel)
theorem cw_633 : (.code ({ cls := "java/util/Arrays", name := "fill", desc := "([BIIB)V" } : MethodName) prog_18_method_110_code (5 : Nat) (Option.none : Option Jvm.ClassFile.FieldType)) ∈ cx_tbl := cx_inw 666 (by decide +kernel) (by decide +kernel)
theorem cw_634 : (.methodLink "java/util/Arrays" (13 : Nat) ({ cls := "java/util/Arrays", name := "rangeCheck", desc := "(III)V" } : MethodName)) ∈ cx_tbl := cx_inw 667 (by decide +kernel) (by decide +kernel)
theorem cw_635 : (.static ({ cls := "java/util/Arrays", name := "rangeCheck", desc := "(III)V" } : MethodName)) ∈ cx_tbl := cx_inw 668 (by decide +kernel) (by decide +kernel)
theorem cw_636 : (.code ({ cls := "java/util/Arrays", name := "rangeCheck", desc := "(III)V" } : MethodName) prog_18_method_30_code (3 : Nat) (Option.none : Option Jvm.ClassFile.FieldType)) ∈ cx_tbl := cx_inw 669 (by decide +kernel) (by decide +kernel)
theorem cw_637 : (.methodLink "java/lang/AbstractStringBuilder" (137 : Nat) ({ cls := "java/lang/StringUTF16", name := "fillNull", desc := "([BII)V" } : MethodName)) ∈ cx_tbl := cx_inw 670 (by decide +kernel) (by decide +kernel)
theorem cw_638 : (.static ({ cls := "java/lang/StringUTF16", name := "fillNull", desc := "([BII)V" } : MethodName)) ∈ cx_tbl := cx_inw 671 (by decide +kernel) (by decide +kernel)
theorem cw_639 : (.code ({ cls := "java/lang/StringUTF16", name := "fillNull", desc := "([BII)V" } : MethodName) prog_16_method_70_code (3 : Nat) (Option.none : Option Jvm.ClassFile.FieldType)) ∈ cx_tbl := cx_inw 672 (by decide +kernel) (by decide +kernel)
theorem cw_640 : (.methodLink "java/lang/StringUTF16" (380 : Nat) ({ cls := "java/util/Arrays", name := "fill", desc := "([BIIB)V" } : MethodName)) ∈ cx_tbl := cx_inw 673 (by decide +kernel) (by decide +kernel)
theorem cw_641 : (.methodLink "CellTests" (173 : Nat) ({ cls := "java/lang/StringBuilder", name := "append", desc := "(I)Ljava/lang/StringBuilder;" } : MethodName)) ∈ cx_tbl := cx_inw 674 (by decide +kernel) (by decide +kernel)
theorem cw_642 : (.instanceMethod ({ cls := "java/lang/StringBuilder", name := "append", desc := "(I)Ljava/lang/StringBuilder;" } : MethodName)) ∈ cx_tbl := cx_inw 675 (by decide +kernel) (by decide +kernel)
theorem cw_643 : (.selects "java/lang/StringBuilder" ({ cls := "java/lang/StringBuilder", name := "append", desc := "(I)Ljava/lang/StringBuilder;" } : MethodName) ({ cls := "java/lang/StringBuilder", name := "append", desc := "(I)Ljava/lang/StringBuilder;" } : MethodName)) ∈ cx_tbl := cx_inw 676 (by decide +kernel) (by decide +kernel)
theorem cw_644 : (.code ({ cls := "java/lang/StringBuilder", name := "append", desc := "(I)Ljava/lang/StringBuilder;" } : MethodName) prog_14_method_15_code (2 : Nat) (Option.some (.object "java/lang/StringBuilder"))) ∈ cx_tbl := cx_inw 677 (by decide +kernel) (by decide +kernel)
theorem cw_645 : (.methodLink "java/lang/StringBuilder" (53 : Nat) ({ cls := "java/lang/AbstractStringBuilder", name := "append", desc := "(I)Ljava/lang/AbstractStringBuilder;" } : MethodName)) ∈ cx_tbl := cx_inw 678 (by decide +kernel) (by decide +kernel)
theorem cw_646 : (.instanceMethod ({ cls := "java/lang/AbstractStringBuilder", name := "append", desc := "(I)Ljava/lang/AbstractStringBuilder;" } : MethodName)) ∈ cx_tbl := cx_inw 679 (by decide +kernel) (by decide +kernel)
theorem cw_647 : (.code ({ cls := "java/lang/AbstractStringBuilder", name := "append", desc := "(I)Ljava/lang/AbstractStringBuilder;" } : MethodName) prog_9_method_32_code (4 : Nat) (Option.some (.object "java/lang/AbstractStringBuilder"))) ∈ cx_tbl := cx_inw 680 (by decide +kernel) (by decide +kernel)
theorem cw_648 : (.methodLink "java/lang/AbstractStringBuilder" (245 : Nat) ({ cls := "java/lang/Integer", name := "stringSize", desc := "(I)I" } : MethodName)) ∈ cx_tbl := cx_inw 681 (by decide +kernel) (by decide +kernel)
theorem cw_649 : (.static ({ cls := "java/lang/Integer", name := "stringSize", desc := "(I)I" } : MethodName)) ∈ cx_tbl := cx_inw 682 (by decide +kernel) (by decide +kernel)
theorem cw_650 : (.code ({ cls := "java/lang/Integer", name := "stringSize", desc := "(I)I" } : MethodName) prog_11_method_13_code (4 : Nat) (Option.some .int)) ∈ cx_tbl := cx_inw 683 (by decide +kernel) (by decide +kernel)
theorem cw_651 : (.methodLink "java/lang/AbstractStringBuilder" (248 : Nat) ({ cls := "java/lang/Integer", name := "getChars", desc := "(II[B)I" } : MethodName)) ∈ cx_tbl := cx_inw 684 (by decide +kernel) (by decide +kernel)
theorem cw_652 : (.static ({ cls := "java/lang/Integer", name := "getChars", desc := "(II[B)I" } : MethodName)) ∈ cx_tbl := cx_inw 685 (by decide +kernel) (by decide +kernel)
theorem cw_653 : (.code ({ cls := "java/lang/Integer", name := "getChars", desc := "(II[B)I" } : MethodName) prog_11_method_12_code (7 : Nat) (Option.some .int)) ∈ cx_tbl := cx_inw 686 (by decide +kernel) (by decide +kernel)
theorem cw_654 : (.fieldLink "java/lang/Integer" (83 : Nat) "java/lang/Integer" "DigitOnes" "[B") ∈ cx_tbl := cx_inw 687 (by decide +kernel) (by decide +kernel)
theorem cw_656 : (.fieldLink "java/lang/Integer" (87 : Nat) "java/lang/Integer" "DigitTens" "[B") ∈ cx_tbl := cx_inw 689 (by decide +kernel) (by decide +kernel)
theorem cw_658 : (.methodLink "java/lang/AbstractStringBuilder" (251 : Nat) ({ cls := "java/lang/StringUTF16", name := "getChars", desc := "(III[B)I" } : MethodName)) ∈ cx_tbl := cx_inw 691 (by decide +kernel) (by decide +kernel)
theorem cw_659 : (.static ({ cls := "java/lang/StringUTF16", name := "getChars", desc := "(III[B)I" } : MethodName)) ∈ cx_tbl := cx_inw 692 (by decide +kernel) (by decide +kernel)
theorem cw_660 : (.code ({ cls := "java/lang/StringUTF16", name := "getChars", desc := "(III[B)I" } : MethodName) prog_16_method_77_code (5 : Nat) (Option.some .int)) ∈ cx_tbl := cx_inw 693 (by decide +kernel) (by decide +kernel)
theorem cw_661 : (.methodLink "java/lang/StringUTF16" (96 : Nat) ({ cls := "java/lang/StringUTF16", name := "checkBoundsBeginEnd", desc := "(II[B)V" } : MethodName)) ∈ cx_tbl := cx_inw 694 (by decide +kernel) (by decide +kernel)
theorem cw_662 : (.static ({ cls := "java/lang/StringUTF16", name := "checkBoundsBeginEnd", desc := "(II[B)V" } : MethodName)) ∈ cx_tbl := cx_inw 695 (by decide +kernel) (by decide +kernel)
theorem cw_663 : (.code ({ cls := "java/lang/StringUTF16", name := "checkBoundsBeginEnd", desc := "(II[B)V" } : MethodName) prog_16_method_93_code (3 : Nat) (Option.none : Option Jvm.ClassFile.FieldType)) ∈ cx_tbl := cx_inw 696 (by decide +kernel) (by decide +kernel)
theorem cw_664 : (.methodLink "java/lang/StringUTF16" (241 : Nat) ({ cls := "java/lang/String", name := "checkBoundsBeginEnd", desc := "(III)V" } : MethodName)) ∈ cx_tbl := cx_inw 697 (by decide +kernel) (by decide +kernel)
theorem cw_665 : (.static ({ cls := "java/lang/String", name := "checkBoundsBeginEnd", desc := "(III)V" } : MethodName)) ∈ cx_tbl := cx_inw 698 (by decide +kernel) (by decide +kernel)
theorem cw_666 : (.code ({ cls := "java/lang/String", name := "checkBoundsBeginEnd", desc := "(III)V" } : MethodName) prog_13_method_158_code (3 : Nat) (Option.none : Option Jvm.ClassFile.FieldType)) ∈ cx_tbl := cx_inw 699 (by decide +kernel) (by decide +kernel)
theorem cw_667 : (.methodLink "java/lang/String" (1062 : Nat) ({ cls := "jdk/internal/util/Preconditions", name := "checkFromToIndex", desc := "(IIILjava/util/function/BiFunction;)I" } : MethodName)) ∈ cx_tbl := cx_inw 700 (by decide +kernel) (by decide +kernel)
theorem cw_668 : (.static ({ cls := "jdk/internal/util/Preconditions", name := "checkFromToIndex", desc := "(IIILjava/util/function/BiFunction;)I" } : MethodName)) ∈ cx_tbl := cx_inw 701 (by decide +kernel) (by decide +kernel)
theorem cw_669 : (.code ({ cls := "jdk/internal/util/Preconditions", name := "checkFromToIndex", desc := "(IIILjava/util/function/BiFunction;)I" } : MethodName) prog_20_method_12_code (4 : Nat) (Option.some .int)) ∈ cx_tbl := cx_inw 702 (by decide +kernel) (by decide +kernel)
theorem cw_670 : (.methodLink "java/lang/StringUTF16" (393 : Nat) ({ cls := "java/lang/StringUTF16", name := "getChars", desc := "(II[B)I" } : MethodName)) ∈ cx_tbl := cx_inw 703 (by decide +kernel) (by decide +kernel)
theorem cw_671 : (.static ({ cls := "java/lang/StringUTF16", name := "getChars", desc := "(II[B)I" } : MethodName)) ∈ cx_tbl := cx_inw 704 (by decide +kernel) (by decide +kernel)
theorem cw_672 : (.code ({ cls := "java/lang/StringUTF16", name := "getChars", desc := "(II[B)I" } : MethodName) prog_16_method_89_code (7 : Nat) (Option.some .int)) ∈ cx_tbl := cx_inw 705 (by decide +kernel) (by decide +kernel)
theorem cw_673 : (.fieldLink "java/lang/StringUTF16" (403 : Nat) "java/lang/Integer" "DigitOnes" "[B") ∈ cx_tbl := cx_inw 706 (by decide +kernel) (by decide +kernel)
theorem cw_674 : (.methodLink "java/lang/StringUTF16" (111 : Nat) ({ cls := "java/lang/StringUTF16", name := "putChar", desc := "([BII)V" } : MethodName)) ∈ cx_tbl := cx_inw 707 (by decide +kernel) (by decide +kernel)
theorem cw_675 : (.static ({ cls := "java/lang/StringUTF16", name := "putChar", desc := "([BII)V" } : MethodName)) ∈ cx_tbl := cx_inw 708 (by decide +kernel) (by decide +kernel)
theorem cw_676 : (.code ({ cls := "java/lang/StringUTF16", name := "putChar", desc := "([BII)V" } : MethodName) prog_16_method_4_code (3 : Nat) (Option.none : Option Jvm.ClassFile.FieldType)) ∈ cx_tbl := cx_inw 709 (by decide +kernel) (by decide +kernel)
theorem cw_677 : (.fieldLink "java/lang/StringUTF16" (407 : Nat) "java/lang/Integer" "DigitTens" "[B") ∈ cx_tbl := cx_inw 710 (by decide +kernel) (by decide +kernel)
theorem cw_678 : (.methodLink "CellTests" (177 : Nat) ({ cls := "java/lang/StringBuilder", name := "append", desc := "(C)Ljava/lang/StringBuilder;" } : MethodName)) ∈ cx_tbl := cx_inw 711 (by decide +kernel) (by decide +kernel)
theorem cw_679 : (.instanceMethod ({ cls := "java/lang/StringBuilder", name := "append", desc := "(C)Ljava/lang/StringBuilder;" } : MethodName)) ∈ cx_tbl := cx_inw 712 (by decide +kernel) (by decide +kernel)
theorem cw_680 : (.selects "java/lang/StringBuilder" ({ cls := "java/lang/StringBuilder", name := "append", desc := "(C)Ljava/lang/StringBuilder;" } : MethodName) ({ cls := "java/lang/StringBuilder", name := "append", desc := "(C)Ljava/lang/StringBuilder;" } : MethodName)) ∈ cx_tbl := cx_inw 713 (by decide +kernel) (by decide +kernel)
theorem cw_681 : (.code ({ cls := "java/lang/StringBuilder", name := "append", desc := "(C)Ljava/lang/StringBuilder;" } : MethodName) prog_14_method_14_code (2 : Nat) (Option.some (.object "java/lang/StringBuilder"))) ∈ cx_tbl := cx_inw 714 (by decide +kernel) (by decide +kernel)
theorem cw_682 : (.methodLink "java/lang/StringBuilder" (50 : Nat) ({ cls := "java/lang/AbstractStringBuilder", name := "append", desc := "(C)Ljava/lang/AbstractStringBuilder;" } : MethodName)) ∈ cx_tbl := cx_inw 715 (by decide +kernel) (by decide +kernel)
theorem cw_683 : (.instanceMethod ({ cls := "java/lang/AbstractStringBuilder", name := "append", desc := "(C)Ljava/lang/AbstractStringBuilder;" } : MethodName)) ∈ cx_tbl := cx_inw 716 (by decide +kernel) (by decide +kernel)
theorem cw_684 : (.code ({ cls := "java/lang/AbstractStringBuilder", name := "append", desc := "(C)Ljava/lang/AbstractStringBuilder;" } : MethodName) prog_9_method_31_code (2 : Nat) (Option.some (.object "java/lang/AbstractStringBuilder"))) ∈ cx_tbl := cx_inw 717 (by decide +kernel) (by decide +kernel)
theorem cw_685 : (.methodLink "java/lang/AbstractStringBuilder" (191 : Nat) ({ cls := "java/lang/StringLatin1", name := "canEncode", desc := "(C)Z" } : MethodName)) ∈ cx_tbl := cx_inw 718 (by decide +kernel) (by decide +kernel)
theorem cw_686 : (.static ({ cls := "java/lang/StringLatin1", name := "canEncode", desc := "(C)Z" } : MethodName)) ∈ cx_tbl := cx_inw 719 (by decide +kernel) (by decide +kernel)
theorem cw_687 : (.code ({ cls := "java/lang/StringLatin1", name := "canEncode", desc := "(C)Z" } : MethodName) prog_15_method_3_code (1 : Nat) (Option.some .boolean)) ∈ cx_tbl := cx_inw 720 (by decide +kernel) (by decide +kernel)
theorem cw_688 : (.methodLink "java/lang/AbstractStringBuilder" (195 : Nat) ({ cls := "java/lang/AbstractStringBuilder", name := "inflate", desc := "()V" } : MethodName)) ∈ cx_tbl := cx_inw 721 (by decide +kernel) (by decide +kernel)
theorem cw_690 : (.instanceMethod ({ cls := "java/lang/AbstractStringBuilder", name := "inflate", desc := "()V" } : MethodName)) ∈ cx_tbl := cx_inw 723 (by decide +kernel) (by decide +kernel)
theorem cw_691 : (.code ({ cls := "java/lang/AbstractStringBuilder", name := "inflate", desc := "()V" } : MethodName) prog_9_method_11_code (2 : Nat) (Option.none : Option Jvm.ClassFile.FieldType)) ∈ cx_tbl := cx_inw 724 (by decide +kernel) (by decide +kernel)
theorem cw_692 : (.methodLink "java/lang/AbstractStringBuilder" (125 : Nat) ({ cls := "java/lang/StringLatin1", name := "inflate", desc := "([BI[BII)V" } : MethodName)) ∈ cx_tbl := cx_inw 725 (by decide +kernel) (by decide +kernel)
theorem cw_693 : (.static ({ cls := "java/lang/StringLatin1", name := "inflate", desc := "([BI[BII)V" } : MethodName)) ∈ cx_tbl := cx_inw 726 (by decide +kernel) (by decide +kernel)
theorem cw_694 : (.code ({ cls := "java/lang/StringLatin1", name := "inflate", desc := "([BI[BII)V" } : MethodName) prog_15_method_50_code (5 : Nat) (Option.none : Option Jvm.ClassFile.FieldType)) ∈ cx_tbl := cx_inw 727 (by decide +kernel) (by decide +kernel)
theorem cw_695 : (.methodLink "java/lang/StringLatin1" (240 : Nat) ({ cls := "java/lang/StringUTF16", name := "inflate", desc := "([BI[BII)V" } : MethodName)) ∈ cx_tbl := cx_inw 728 (by decide +kernel) (by decide +kernel)
theorem cw_696 : (.static ({ cls := "java/lang/StringUTF16", name := "inflate", desc := "([BI[BII)V" } : MethodName)) ∈ cx_tbl := cx_inw 729 (by decide +kernel) (by decide +kernel)
theorem cw_697 : (.code ({ cls := "java/lang/StringUTF16", name := "inflate", desc := "([BI[BII)V" } : MethodName) prog_16_method_86_code (6 : Nat) (Option.none : Option Jvm.ClassFile.FieldType)) ∈ cx_tbl := cx_inw 730 (by decide +kernel) (by decide +kernel)
theorem cw_698 : (.methodLink "java/lang/StringUTF16" (173 : Nat) ({ cls := "java/lang/StringUTF16", name := "checkBoundsOffCount", desc := "(II[B)V" } : MethodName)) ∈ cx_tbl := cx_inw 731 (by decide +kernel) (by decide +kernel)
theorem cw_699 : (.static ({ cls := "java/lang/StringUTF16", name := "checkBoundsOffCount", desc := "(II[B)V" } : MethodName)) ∈ cx_tbl := cx_inw 732 (by decide +kernel) (by decide +kernel)
theorem cw_700 : (.code ({ cls := "java/lang/StringUTF16", name := "checkBoundsOffCount", desc := "(II[B)V" } : MethodName) prog_16_method_94_code (3 : Nat) (Option.none : Option Jvm.ClassFile.FieldType)) ∈ cx_tbl := cx_inw 733 (by decide +kernel) (by decide +kernel)
theorem cw_701 : (.methodLink "java/lang/StringUTF16" (419 : Nat) ({ cls := "java/lang/String", name := "checkBoundsOffCount", desc := "(III)I" } : MethodName)) ∈ cx_tbl := cx_inw 734 (by decide +kernel) (by decide +kernel)
theorem cw_702 : (.static ({ cls := "java/lang/String", name := "checkBoundsOffCount", desc := "(III)I" } : MethodName)) ∈ cx_tbl := cx_inw 735 (by decide +kernel) (by decide +kernel)
theorem cw_703 : (.code ({ cls := "java/lang/String", name := "checkBoundsOffCount", desc := "(III)I" } : MethodName) prog_13_method_157_code (3 : Nat) (Option.some .int)) ∈ cx_tbl := cx_inw 736 (by decide +kernel) (by decide +kernel)
theorem cw_704 : (.methodLink "java/lang/String" (1065 : Nat) ({ cls := "jdk/internal/util/Preconditions", name := "checkFromIndexSize", desc := "(IIILjava/util/function/BiFunction;)I" } : MethodName)) ∈ cx_tbl := cx_inw 737 (by decide +kernel) (by decide +kernel)
theorem cw_705 : (.static ({ cls := "jdk/internal/util/Preconditions", name := "checkFromIndexSize", desc := "(IIILjava/util/function/BiFunction;)I" } : MethodName)) ∈ cx_tbl := cx_inw 738 (by decide +kernel) (by decide +kernel)
theorem cw_706 : (.code ({ cls := "jdk/internal/util/Preconditions", name := "checkFromIndexSize", desc := "(IIILjava/util/function/BiFunction;)I" } : MethodName) prog_20_method_13_code (4 : Nat) (Option.some .int)) ∈ cx_tbl := cx_inw 739 (by decide +kernel) (by decide +kernel)
theorem cw_707 : (.methodLink "java/lang/AbstractStringBuilder" (197 : Nat) ({ cls := "java/lang/StringUTF16", name := "putCharSB", desc := "([BII)V" } : MethodName)) ∈ cx_tbl := cx_inw 740 (by decide +kernel) (by decide +kernel)
theorem cw_708 : (.static ({ cls := "java/lang/StringUTF16", name := "putCharSB", desc := "([BII)V" } : MethodName)) ∈ cx_tbl := cx_inw 741 (by decide +kernel) (by decide +kernel)
theorem cw_709 : (.code ({ cls := "java/lang/StringUTF16", name := "putCharSB", desc := "([BII)V" } : MethodName) prog_16_method_71_code (3 : Nat) (Option.none : Option Jvm.ClassFile.FieldType)) ∈ cx_tbl := cx_inw 742 (by decide +kernel) (by decide +kernel)
theorem cw_710 : (.methodLink "CellTests" (180 : Nat) ({ cls := "java/lang/StringBuilder", name := "length", desc := "()I" } : MethodName)) ∈ cx_tbl := cx_inw 743 (by decide +kernel) (by decide +kernel)
theorem cw_711 : (.instanceMethod ({ cls := "java/lang/StringBuilder", name := "length", desc := "()I" } : MethodName)) ∈ cx_tbl := cx_inw 744 (by decide +kernel) (by decide +kernel)
theorem cw_712 : (.selects "java/lang/StringBuilder" ({ cls := "java/lang/StringBuilder", name := "length", desc := "()I" } : MethodName) ({ cls := "java/lang/StringBuilder", name := "length", desc := "()I" } : MethodName)) ∈ cx_tbl := cx_inw 745 (by decide +kernel) (by decide +kernel)
theorem cw_713 : (.code ({ cls := "java/lang/StringBuilder", name := "length", desc := "()I" } : MethodName) prog_14_method_93_code (1 : Nat) (Option.some .int)) ∈ cx_tbl := cx_inw 746 (by decide +kernel) (by decide +kernel)
theorem cw_714 : (.methodLink "java/lang/StringBuilder" (343 : Nat) ({ cls := "java/lang/AbstractStringBuilder", name := "length", desc := "()I" } : MethodName)) ∈ cx_tbl := cx_inw 747 (by decide +kernel) (by decide +kernel)
theorem cw_715 : (.instanceMethod ({ cls := "java/lang/AbstractStringBuilder", name := "length", desc := "()I" } : MethodName)) ∈ cx_tbl := cx_inw 748 (by decide +kernel) (by decide +kernel)
theorem cw_716 : (.code ({ cls := "java/lang/AbstractStringBuilder", name := "length", desc := "()I" } : MethodName) prog_9_method_6_code (1 : Nat) (Option.some .int)) ∈ cx_tbl := cx_inw 749 (by decide +kernel) (by decide +kernel)
theorem cw_717 : (.methodLink "CellTests" (183 : Nat) ({ cls := "java/lang/StringBuilder", name := "charAt", desc := "(I)C" } : MethodName)) ∈ cx_tbl := cx_inw 750 (by decide +kernel) (by decide +kernel)
theorem cw_718 : (.instanceMethod ({ cls := "java/lang/StringBuilder", name := "charAt", desc := "(I)C" } : MethodName)) ∈ cx_tbl := cx_inw 751 (by decide +kernel) (by decide +kernel)
theorem cw_719 : (.selects "java/lang/StringBuilder" ({ cls := "java/lang/StringBuilder", name := "charAt", desc := "(I)C" } : MethodName) ({ cls := "java/lang/StringBuilder", name := "charAt", desc := "(I)C" } : MethodName)) ∈ cx_tbl := cx_inw 752 (by decide +kernel) (by decide +kernel)
theorem cw_720 : (.code ({ cls := "java/lang/StringBuilder", name := "charAt", desc := "(I)C" } : MethodName) prog_14_method_88_code (2 : Nat) (Option.some .char)) ∈ cx_tbl := cx_inw 753 (by decide +kernel) (by decide +kernel)
theorem cw_721 : (.methodLink "java/lang/StringBuilder" (329 : Nat) ({ cls := "java/lang/AbstractStringBuilder", name := "charAt", desc := "(I)C" } : MethodName)) ∈ cx_tbl := cx_inw 754 (by decide +kernel) (by decide +kernel)
theorem cw_722 : (.instanceMethod ({ cls := "java/lang/AbstractStringBuilder", name := "charAt", desc := "(I)C" } : MethodName)) ∈ cx_tbl := cx_inw 755 (by decide +kernel) (by decide +kernel)
theorem cw_723 : (.code ({ cls := "java/lang/AbstractStringBuilder", name := "charAt", desc := "(I)C" } : MethodName) prog_9_method_14_code (5 : Nat) (Option.some .char)) ∈ cx_tbl := cx_inw 756 (by decide +kernel) (by decide +kernel)
theorem cw_724 : (.methodLink "java/lang/AbstractStringBuilder" (138 : Nat) ({ cls := "java/lang/Math", name := "min", desc := "(II)I" } : MethodName)) ∈ cx_tbl := cx_inw 757 (by decide +kernel) (by decide +kernel)
theorem cw_725 : (.methodLink "java/lang/AbstractStringBuilder" (144 : Nat) ({ cls := "java/lang/String", name := "checkIndex", desc := "(II)V" } : MethodName)) ∈ cx_tbl := cx_inw 758 (by decide +kernel) (by decide +kernel)
theorem cw_726 : (.methodLink "java/lang/AbstractStringBuilder" (148 : Nat) ({ cls := "java/lang/StringUTF16", name := "getChar", desc := "([BI)C" } : MethodName)) ∈ cx_tbl := cx_inw 759 (by decide +kernel) (by decide +kernel)
theorem cw_727 : (.classLink "CellTestsLaw" (10 : Nat) "CellTestsModel") ∈ cx_tbl := cx_inw 760 (by decide +kernel) (by decide +kernel)
theorem cw_728 : (.instantiable "CellTestsModel" (31 : Nat)) ∈ cx_tbl := cx_inw 761 (by decide +kernel) (by decide +kernel)
theorem cw_729 : (.methodLink "CellTestsLaw" (12 : Nat) ({ cls := "CellTestsModel", name := "<init>", desc := "()V" } : MethodName)) ∈ cx_tbl := cx_inw 762 (by decide +kernel) (by decide +kernel)
theorem cw_730 : (.instanceMethod ({ cls := "CellTestsModel", name := "<init>", desc := "()V" } : MethodName)) ∈ cx_tbl := cx_inw 763 (by decide +kernel) (by decide +kernel)
theorem cw_731 : (.code ({ cls := "CellTestsModel", name := "<init>", desc := "()V" } : MethodName) prog_8_method_1_code (2 : Nat) (Option.none : Option Jvm.ClassFile.FieldType)) ∈ cx_tbl := cx_inw 764 (by decide +kernel) (by decide +kernel)
theorem cw_732 : (.methodLink "CellTestsModel" (1 : Nat) ({ cls := "java/lang/Object", name := "<init>", desc := "()V" } : MethodName)) ∈ cx_tbl := cx_inw 765 (by decide +kernel) (by decide +kernel)
theorem cw_733 : (.constant "CellTestsModel" (13 : Nat) (1000000 : Int32)) ∈ cx_tbl := cx_inw 766 (by decide +kernel) (by decide +kernel)
theorem cw_734 : (.fieldLink "CellTestsModel" (72 : Nat) "CellTestsModel" "cells" "I") ∈ cx_tbl := cx_inw 767 (by decide +kernel) (by decide +kernel)
theorem cw_735 : (.fieldLink "CellTestsModel" (7 : Nat) "CellTestsModel" "warmths" "[I") ∈ cx_tbl := cx_inw 768 (by decide +kernel) (by decide +kernel)
theorem cw_736 : (.fieldLink "CellTestsModel" (81 : Nat) "CellTestsModel" "low" "I") ∈ cx_tbl := cx_inw 769 (by decide +kernel) (by decide +kernel)
theorem cw_737 : (.fieldLink "CellTestsModel" (14 : Nat) "CellTestsModel" "high" "I") ∈ cx_tbl := cx_inw 770 (by decide +kernel) (by decide +kernel)
theorem cw_738 : (.fieldLink "CellTestsModel" (18 : Nat) "CellTestsModel" "stepCounts" "[I") ∈ cx_tbl := cx_inw 771 (by decide +kernel) (by decide +kernel)
theorem cw_739 : (.fieldLink "CellTestsModel" (21 : Nat) "CellTestsModel" "seconds" "[I") ∈ cx_tbl := cx_inw 772 (by decide +kernel) (by decide +kernel)
theorem cw_740 : (.fieldLink "CellTestsModel" (24 : Nat) "CellTestsModel" "amperes" "[I") ∈ cx_tbl := cx_inw 773 (by decide +kernel) (by decide +kernel)
theorem cw_741 : (.fieldLink "CellTestsModel" (27 : Nat) "CellTestsModel" "volts" "[I") ∈ cx_tbl := cx_inw 774 (by decide +kernel) (by decide +kernel)
theorem cw_742 : (.fieldLink "CellTestsModel" (30 : Nat) "CellTestsModel" "restCounts" "[I") ∈ cx_tbl := cx_inw 775 (by decide +kernel) (by decide +kernel)
theorem cw_743 : (.fieldLink "CellTestsModel" (33 : Nat) "CellTestsModel" "days" "[I") ∈ cx_tbl := cx_inw 776 (by decide +kernel) (by decide +kernel)
theorem cw_744 : (.fieldLink "CellTestsModel" (36 : Nat) "CellTestsModel" "restVolts" "[I") ∈ cx_tbl := cx_inw 777 (by decide +kernel) (by decide +kernel)
theorem cw_745 : (.fieldLink "CellTestsModel" (39 : Nat) "CellTestsModel" "text" "[I") ∈ cx_tbl := cx_inw 778 (by decide +kernel) (by decide +kernel)
theorem cw_746 : (.fieldLink "CellTestsModel" (121 : Nat) "CellTestsModel" "size" "I") ∈ cx_tbl := cx_inw 779 (by decide +kernel) (by decide +kernel)
theorem cw_747 : (.fieldLink "CellTestsModel" (158 : Nat) "CellTestsModel" "sentences" "I") ∈ cx_tbl := cx_inw 780 (by decide +kernel) (by decide +kernel)
theorem cw_748 : (.fieldLink "CellTestsModel" (42 : Nat) "CellTestsModel" "classes" "[I") ∈ cx_tbl := cx_inw 781 (by decide +kernel) (by decide +kernel)
theorem cw_749 : (.fieldLink "CellTestsModel" (45 : Nat) "CellTestsModel" "firstClause" "[I") ∈ cx_tbl := cx_inw 782 (by decide +kernel) (by decide +kernel)
theorem cw_750 : (.fieldLink "CellTestsModel" (48 : Nat) "CellTestsModel" "clauses" "[I") ∈ cx_tbl := cx_inw 783 (by decide +kernel) (by decide +kernel)
theorem cw_751 : (.fieldLink "CellTestsModel" (133 : Nat) "CellTestsModel" "newSentences" "I") ∈ cx_tbl := cx_inw 784 (by decide +kernel) (by decide +kernel)
theorem cw_752 : (.fieldLink "CellTestsModel" (51 : Nat) "CellTestsModel" "newClasses" "[I") ∈ cx_tbl := cx_inw 785 (by decide +kernel) (by decide +kernel)
theorem cw_753 : (.fieldLink "CellTestsModel" (54 : Nat) "CellTestsModel" "newFirst" "[I") ∈ cx_tbl := cx_inw 786 (by decide +kernel) (by decide +kernel)
theorem cw_754 : (.fieldLink "CellTestsModel" (57 : Nat) "CellTestsModel" "newClauses" "[I") ∈ cx_tbl := cx_inw 787 (by decide +kernel) (by decide +kernel)
theorem cw_755 : (.fieldLink "CellTestsModel" (136 : Nat) "CellTestsModel" "newCount" "I") ∈ cx_tbl := cx_inw 788 (by decide +kernel) (by decide +kernel)
theorem cw_756 : (.fieldLink "CellTestsModel" (60 : Nat) "CellTestsModel" "packs" "[I") ∈ cx_tbl := cx_inw 789 (by decide +kernel) (by decide +kernel)
theorem cw_757 : (.fieldLink "CellTestsModel" (63 : Nat) "CellTestsModel" "way" "[I") ∈ cx_tbl := cx_inw 790 (by decide +kernel) (by decide +kernel)
theorem cw_758 : (.fieldLink "CellTestsModel" (195 : Nat) "CellTestsModel" "rows" "I") ∈ cx_tbl := cx_inw 791 (by decide +kernel) (by decide +kernel)
theorem cw_759 : (.fieldLink "CellTestsModel" (66 : Nat) "CellTestsModel" "rowCycles" "[I") ∈ cx_tbl := cx_inw 792 (by decide +kernel) (by decide +kernel)
theorem cw_760 : (.fieldLink "CellTestsModel" (69 : Nat) "CellTestsModel" "rowLosses" "[I") ∈ cx_tbl := cx_inw 793 (by decide +kernel) (by decide +kernel)
theorem cw_761 : (.fieldLink "CellTestsModel" (126 : Nat) "CellTestsModel" "from" "I") ∈ cx_tbl := cx_inw 794 (by decide +kernel) (by decide +kernel)
theorem cw_762 : (.fieldLink "CellTestsModel" (123 : Nat) "CellTestsModel" "end" "I") ∈ cx_tbl := cx_inw 795 (by decide +kernel) (by decide +kernel)
theorem cw_763 : (.fieldLink "CellTestsModel" (200 : Nat) "CellTestsModel" "left" "I") ∈ cx_tbl := cx_inw 796 (by decide +kernel) (by decide +kernel)
theorem cw_764 : (.fieldLink "CellTestsModel" (203 : Nat) "CellTestsModel" "looked" "I") ∈ cx_tbl := cx_inw 797 (by decide +kernel) (by decide +kernel)
theorem cw_765 : (.lays "CellTestsModel" "CellTestsModel" "cells" "I") ∈ cx_tbl := cx_inw 798 (by decide +kernel) (by decide +kernel)
theorem cw_767 : (.laysFinal "CellTestsModel" "CellTestsModel" "warmths" "[I") ∈ cx_tbl := cx_inw 800 (by decide +kernel) (by decide +kernel)
theorem cw_769 : (.lays "CellTestsModel" "CellTestsModel" "low" "I") ∈ cx_tbl := cx_inw 802 (by decide +kernel) (by decide +kernel)
theorem cw_771 : (.lays "CellTestsModel" "CellTestsModel" "high" "I") ∈ cx_tbl := cx_inw 804 (by decide +kernel) (by decide +kernel)
theorem cw_773 : (.laysFinal "CellTestsModel" "CellTestsModel" "stepCounts" "[I") ∈ cx_tbl := cx_inw 806 (by decide +kernel) (by decide +kernel)
theorem cw_775 : (.laysFinal "CellTestsModel" "CellTestsModel" "seconds" "[I") ∈ cx_tbl := cx_inw 808 (by decide +kernel) (by decide +kernel)
theorem cw_777 : (.laysFinal "CellTestsModel" "CellTestsModel" "amperes" "[I") ∈ cx_tbl := cx_inw 810 (by decide +kernel) (by decide +kernel)
theorem cw_779 : (.laysFinal "CellTestsModel" "CellTestsModel" "volts" "[I") ∈ cx_tbl := cx_inw 812 (by decide +kernel) (by decide +kernel)
theorem cw_781 : (.laysFinal "CellTestsModel" "CellTestsModel" "restCounts" "[I") ∈ cx_tbl := cx_inw 814 (by decide +kernel) (by decide +kernel)
theorem cw_783 : (.laysFinal "CellTestsModel" "CellTestsModel" "days" "[I") ∈ cx_tbl := cx_inw 816 (by decide +kernel) (by decide +kernel)
theorem cw_785 : (.laysFinal "CellTestsModel" "CellTestsModel" "restVolts" "[I") ∈ cx_tbl := cx_inw 818 (by decide +kernel) (by decide +kernel)
theorem cw_787 : (.laysFinal "CellTestsModel" "CellTestsModel" "text" "[I") ∈ cx_tbl := cx_inw 820 (by decide +kernel) (by decide +kernel)
theorem cw_789 : (.lays "CellTestsModel" "CellTestsModel" "size" "I") ∈ cx_tbl := cx_inw 822 (by decide +kernel) (by decide +kernel)
theorem cw_791 : (.lays "CellTestsModel" "CellTestsModel" "sentences" "I") ∈ cx_tbl := cx_inw 824 (by decide +kernel) (by decide +kernel)
theorem cw_793 : (.laysFinal "CellTestsModel" "CellTestsModel" "classes" "[I") ∈ cx_tbl := cx_inw 826 (by decide +kernel) (by decide +kernel)
theorem cw_795 : (.laysFinal "CellTestsModel" "CellTestsModel" "firstClause" "[I") ∈ cx_tbl := cx_inw 828 (by decide +kernel) (by decide +kernel)
theorem cw_797 : (.laysFinal "CellTestsModel" "CellTestsModel" "clauses" "[I") ∈ cx_tbl := cx_inw 830 (by decide +kernel) (by decide +kernel)
theorem cw_799 : (.lays "CellTestsModel" "CellTestsModel" "newSentences" "I") ∈ cx_tbl := cx_inw 832 (by decide +kernel) (by decide +kernel)
theorem cw_801 : (.laysFinal "CellTestsModel" "CellTestsModel" "newClasses" "[I") ∈ cx_tbl := cx_inw 834 (by decide +kernel) (by decide +kernel)
theorem cw_803 : (.laysFinal "CellTestsModel" "CellTestsModel" "newFirst" "[I") ∈ cx_tbl := cx_inw 836 (by decide +kernel) (by decide +kernel)
theorem cw_805 : (.laysFinal "CellTestsModel" "CellTestsModel" "newClauses" "[I") ∈ cx_tbl := cx_inw 838 (by decide +kernel) (by decide +kernel)
theorem cw_807 : (.lays "CellTestsModel" "CellTestsModel" "newCount" "I") ∈ cx_tbl := cx_inw 840 (by decide +kernel) (by decide +kernel)
theorem cw_809 : (.laysFinal "CellTestsModel" "CellTestsModel" "packs" "[I") ∈ cx_tbl := cx_inw 842 (by decide +kernel) (by decide +kernel)
theorem cw_811 : (.laysFinal "CellTestsModel" "CellTestsModel" "way" "[I") ∈ cx_tbl := cx_inw 844 (by decide +kernel) (by decide +kernel)
theorem cw_813 : (.lays "CellTestsModel" "CellTestsModel" "rows" "I") ∈ cx_tbl := cx_inw 846 (by decide +kernel) (by decide +kernel)
theorem cw_815 : (.laysFinal "CellTestsModel" "CellTestsModel" "rowCycles" "[I") ∈ cx_tbl := cx_inw 848 (by decide +kernel) (by decide +kernel)
theorem cw_817 : (.laysFinal "CellTestsModel" "CellTestsModel" "rowLosses" "[I") ∈ cx_tbl := cx_inw 850 (by decide +kernel) (by decide +kernel)
theorem cw_819 : (.lays "CellTestsModel" "CellTestsModel" "from" "I") ∈ cx_tbl := cx_inw 852 (by decide +kernel) (by decide +kernel)
theorem cw_821 : (.lays "CellTestsModel" "CellTestsModel" "end" "I") ∈ cx_tbl := cx_inw 854 (by decide +kernel) (by decide +kernel)
theorem cw_823 : (.lays "CellTestsModel" "CellTestsModel" "left" "I") ∈ cx_tbl := cx_inw 856 (by decide +kernel) (by decide +kernel)
theorem cw_825 : (.lays "CellTestsModel" "CellTestsModel" "looked" "I") ∈ cx_tbl := cx_inw 858 (by decide +kernel) (by decide +kernel)
theorem cw_828 : (.methodLink "CellTestsLaw" (17 : Nat) ({ cls := "CellTestsModel", name := "cell", desc := "()I" } : MethodName)) ∈ cx_tbl := cx_inw 861 (by decide +kernel) (by decide +kernel)
theorem cw_829 : (.instanceMethod ({ cls := "CellTestsModel", name := "cell", desc := "()I" } : MethodName)) ∈ cx_tbl := cx_inw 862 (by decide +kernel) (by decide +kernel)
theorem cw_830 : (.selects "CellTestsModel" ({ cls := "CellTestsModel", name := "cell", desc := "()I" } : MethodName) ({ cls := "CellTestsModel", name := "cell", desc := "()I" } : MethodName)) ∈ cx_tbl := cx_inw 863 (by decide +kernel) (by decide +kernel)
theorem cw_831 : (.code ({ cls := "CellTestsModel", name := "cell", desc := "()I" } : MethodName) prog_8_method_5_code (1 : Nat) (Option.some .int)) ∈ cx_tbl := cx_inw 864 (by decide +kernel) (by decide +kernel)
theorem cw_832 : (.methodLink "CellTestsLaw" (22 : Nat) ({ cls := "CellTestsModel", name := "span", desc := "(II)Z" } : MethodName)) ∈ cx_tbl := cx_inw 865 (by decide +kernel) (by decide +kernel)
theorem cw_833 : (.instanceMethod ({ cls := "CellTestsModel", name := "span", desc := "(II)Z" } : MethodName)) ∈ cx_tbl := cx_inw 866 (by decide +kernel) (by decide +kernel)
theorem cw_834 : (.selects "CellTestsModel" ({ cls := "CellTestsModel", name := "span", desc := "(II)Z" } : MethodName) ({ cls := "CellTestsModel", name := "span", desc := "(II)Z" } : MethodName)) ∈ cx_tbl := cx_inw 867 (by decide +kernel) (by decide +kernel)
theorem cw_835 : (.code ({ cls := "CellTestsModel", name := "span", desc := "(II)Z" } : MethodName) prog_8_method_6_code (3 : Nat) (Option.some .boolean)) ∈ cx_tbl := cx_inw 868 (by decide +kernel) (by decide +kernel)
theorem cw_836 : (.constantLong "CellTestsModel" (75 : Nat) (1000000 : Int64)) ∈ cx_tbl := cx_inw 869 (by decide +kernel) (by decide +kernel)
theorem cw_837 : (.methodLink "CellTestsModel" (77 : Nat) ({ cls := "CellTestsModel", name := "isIn", desc := "(JJJ)Z" } : MethodName)) ∈ cx_tbl := cx_inw 870 (by decide +kernel) (by decide +kernel)
theorem cw_838 : (.static ({ cls := "CellTestsModel", name := "isIn", desc := "(JJJ)Z" } : MethodName)) ∈ cx_tbl := cx_inw 871 (by decide +kernel) (by decide +kernel)
theorem cw_839 : (.code ({ cls := "CellTestsModel", name := "isIn", desc := "(JJJ)Z" } : MethodName) prog_8_method_3_code (6 : Nat) (Option.some .boolean)) ∈ cx_tbl := cx_inw 872 (by decide +kernel) (by decide +kernel)
theorem cw_840 : (.methodLink "CellTestsLaw" (26 : Nat) ({ cls := "CellTestsModel", name := "warm", desc := "(II)Z" } : MethodName)) ∈ cx_tbl := cx_inw 873 (by decide +kernel) (by decide +kernel)
theorem cw_841 : (.instanceMethod ({ cls := "CellTestsModel", name := "warm", desc := "(II)Z" } : MethodName)) ∈ cx_tbl := cx_inw 874 (by decide +kernel) (by decide +kernel)
theorem cw_842 : (.selects "CellTestsModel" ({ cls := "CellTestsModel", name := "warm", desc := "(II)Z" } : MethodName) ({ cls := "CellTestsModel", name := "warm", desc := "(II)Z" } : MethodName)) ∈ cx_tbl := cx_inw 875 (by decide +kernel) (by decide +kernel)
theorem cw_843 : (.code ({ cls := "CellTestsModel", name := "warm", desc := "(II)Z" } : MethodName) prog_8_method_8_code (3 : Nat) (Option.some .boolean)) ∈ cx_tbl := cx_inw 876 (by decide +kernel) (by decide +kernel)
theorem cw_844 : (.methodLink "CellTestsModel" (84 : Nat) ({ cls := "CellTestsModel", name := "isCell", desc := "(I)Z" } : MethodName)) ∈ cx_tbl := cx_inw 877 (by decide +kernel) (by decide +kernel)
theorem cw_846 : (.instanceMethod ({ cls := "CellTestsModel", name := "isCell", desc := "(I)Z" } : MethodName)) ∈ cx_tbl := cx_inw 879 (by decide +kernel) (by decide +kernel)
theorem cw_847 : (.code ({ cls := "CellTestsModel", name := "isCell", desc := "(I)Z" } : MethodName) prog_8_method_4_code (2 : Nat) (Option.some .boolean)) ∈ cx_tbl := cx_inw 880 (by decide +kernel) (by decide +kernel)
theorem cw_848 : (.methodLink "CellTestsModel" (88 : Nat) ({ cls := "CellTestsModel", name := "isInSpan", desc := "(I)Z" } : MethodName)) ∈ cx_tbl := cx_inw 881 (by decide +kernel) (by decide +kernel)
theorem cw_850 : (.instanceMethod ({ cls := "CellTestsModel", name := "isInSpan", desc := "(I)Z" } : MethodName)) ∈ cx_tbl := cx_inw 883 (by decide +kernel) (by decide +kernel)
theorem cw_851 : (.code ({ cls := "CellTestsModel", name := "isInSpan", desc := "(I)Z" } : MethodName) prog_8_method_7_code (2 : Nat) (Option.some .boolean)) ∈ cx_tbl := cx_inw 884 (by decide +kernel) (by decide +kernel)
theorem cw_852 : (.methodLink "CellTestsLaw" (31 : Nat) ({ cls := "CellTestsModel", name := "step", desc := "(IIII)Z" } : MethodName)) ∈ cx_tbl := cx_inw 885 (by decide +kernel) (by decide +kernel)
theorem cw_853 : (.instanceMethod ({ cls := "CellTestsModel", name := "step", desc := "(IIII)Z" } : MethodName)) ∈ cx_tbl := cx_inw 886 (by decide +kernel) (by decide +kernel)
theorem cw_854 : (.selects "CellTestsModel" ({ cls := "CellTestsModel", name := "step", desc := "(IIII)Z" } : MethodName) ({ cls := "CellTestsModel", name := "step", desc := "(IIII)Z" } : MethodName)) ∈ cx_tbl := cx_inw 887 (by decide +kernel) (by decide +kernel)
theorem cw_855 : (.code ({ cls := "CellTestsModel", name := "step", desc := "(IIII)Z" } : MethodName) prog_8_method_9_code (6 : Nat) (Option.some .boolean)) ∈ cx_tbl := cx_inw 888 (by decide +kernel) (by decide +kernel)
theorem cw_856 : (.constantLong "CellTestsModel" (91 : Nat) (100000 : Int64)) ∈ cx_tbl := cx_inw 889 (by decide +kernel) (by decide +kernel)
theorem cw_857 : (.constantLong "CellTestsModel" (93 : Nat) (-100000 : Int64)) ∈ cx_tbl := cx_inw 890 (by decide +kernel) (by decide +kernel)
theorem cw_858 : (.constantLong "CellTestsModel" (95 : Nat) (10000 : Int64)) ∈ cx_tbl := cx_inw 891 (by decide +kernel) (by decide +kernel)
theorem cw_859 : (.methodLink "CellTestsLaw" (36 : Nat) ({ cls := "CellTestsModel", name := "rest", desc := "(III)Z" } : MethodName)) ∈ cx_tbl := cx_inw 892 (by decide +kernel) (by decide +kernel)
theorem cw_860 : (.instanceMethod ({ cls := "CellTestsModel", name := "rest", desc := "(III)Z" } : MethodName)) ∈ cx_tbl := cx_inw 893 (by decide +kernel) (by decide +kernel)
theorem cw_861 : (.selects "CellTestsModel" ({ cls := "CellTestsModel", name := "rest", desc := "(III)Z" } : MethodName) ({ cls := "CellTestsModel", name := "rest", desc := "(III)Z" } : MethodName)) ∈ cx_tbl := cx_inw 894 (by decide +kernel) (by decide +kernel)
theorem cw_862 : (.code ({ cls := "CellTestsModel", name := "rest", desc := "(III)Z" } : MethodName) prog_8_method_10_code (5 : Nat) (Option.some .boolean)) ∈ cx_tbl := cx_inw 895 (by decide +kernel) (by decide +kernel)
theorem cw_863 : (.methodLink "CellTestsLaw" (41 : Nat) ({ cls := "CellTestsModel", name := "charge", desc := "(I)J" } : MethodName)) ∈ cx_tbl := cx_inw 896 (by decide +kernel) (by decide +kernel)
theorem cw_864 : (.instanceMethod ({ cls := "CellTestsModel", name := "charge", desc := "(I)J" } : MethodName)) ∈ cx_tbl := cx_inw 897 (by decide +kernel) (by decide +kernel)
theorem cw_865 : (.selects "CellTestsModel" ({ cls := "CellTestsModel", name := "charge", desc := "(I)J" } : MethodName) ({ cls := "CellTestsModel", name := "charge", desc := "(I)J" } : MethodName)) ∈ cx_tbl := cx_inw 898 (by decide +kernel) (by decide +kernel)
theorem cw_866 : (.code ({ cls := "CellTestsModel", name := "charge", desc := "(I)J" } : MethodName) prog_8_method_11_code (6 : Nat) (Option.some .long)) ∈ cx_tbl := cx_inw 899 (by decide +kernel) (by decide +kernel)
theorem cw_867 : (.constantLong "CellTestsModel" (97 : Nat) (-9223372036854775808 : Int64)) ∈ cx_tbl := cx_inw 900 (by decide +kernel) (by decide +kernel)
theorem cw_868 : (.constantLong "CellTestsModel" (99 : Nat) (3600 : Int64)) ∈ cx_tbl := cx_inw 901 (by decide +kernel) (by decide +kernel)
theorem cw_869 : (.methodLink "CellTestsLaw" (46 : Nat) ({ cls := "CellTestsModel", name := "resistance", desc := "(II)I" } : MethodName)) ∈ cx_tbl := cx_inw 902 (by decide +kernel) (by decide +kernel)
theorem cw_870 : (.instanceMethod ({ cls := "CellTestsModel", name := "resistance", desc := "(II)I" } : MethodName)) ∈ cx_tbl := cx_inw 903 (by decide +kernel) (by decide +kernel)
theorem cw_871 : (.selects "CellTestsModel" ({ cls := "CellTestsModel", name := "resistance", desc := "(II)I" } : MethodName) ({ cls := "CellTestsModel", name := "resistance", desc := "(II)I" } : MethodName)) ∈ cx_tbl := cx_inw 904 (by decide +kernel) (by decide +kernel)
theorem cw_872 : (.code ({ cls := "CellTestsModel", name := "resistance", desc := "(II)I" } : MethodName) prog_8_method_16_code (4 : Nat) (Option.some .int)) ∈ cx_tbl := cx_inw 905 (by decide +kernel) (by decide +kernel)
theorem cw_873 : (.methodLink "CellTestsModel" (105 : Nat) ({ cls := "CellTestsModel", name := "turnOf", desc := "(I)I" } : MethodName)) ∈ cx_tbl := cx_inw 906 (by decide +kernel) (by decide +kernel)
theorem cw_875 : (.instanceMethod ({ cls := "CellTestsModel", name := "turnOf", desc := "(I)I" } : MethodName)) ∈ cx_tbl := cx_inw 908 (by decide +kernel) (by decide +kernel)
theorem cw_876 : (.code ({ cls := "CellTestsModel", name := "turnOf", desc := "(I)I" } : MethodName) prog_8_method_15_code (4 : Nat) (Option.some .int)) ∈ cx_tbl := cx_inw 909 (by decide +kernel) (by decide +kernel)
theorem cw_877 : (.methodLink "CellTestsModel" (109 : Nat) ({ cls := "CellTestsModel", name := "size", desc := "(I)I" } : MethodName)) ∈ cx_tbl := cx_inw 910 (by decide +kernel) (by decide +kernel)
theorem cw_878 : (.static ({ cls := "CellTestsModel", name := "size", desc := "(I)I" } : MethodName)) ∈ cx_tbl := cx_inw 911 (by decide +kernel) (by decide +kernel)
theorem cw_879 : (.code ({ cls := "CellTestsModel", name := "size", desc := "(I)I" } : MethodName) prog_8_method_12_code (1 : Nat) (Option.some .int)) ∈ cx_tbl := cx_inw 912 (by decide +kernel) (by decide +kernel)
theorem cw_880 : (.methodLink "CellTestsModel" (112 : Nat) ({ cls := "CellTestsModel", name := "partOf", desc := "(III)I" } : MethodName)) ∈ cx_tbl := cx_inw 913 (by decide +kernel) (by decide +kernel)
theorem cw_881 : (.static ({ cls := "CellTestsModel", name := "partOf", desc := "(III)I" } : MethodName)) ∈ cx_tbl := cx_inw 914 (by decide +kernel) (by decide +kernel)
theorem cw_882 : (.code ({ cls := "CellTestsModel", name := "partOf", desc := "(III)I" } : MethodName) prog_8_method_14_code (4 : Nat) (Option.some .int)) ∈ cx_tbl := cx_inw 915 (by decide +kernel) (by decide +kernel)
theorem cw_883 : (.methodLink "CellTestsModel" (101 : Nat) ({ cls := "CellTestsModel", name := "common", desc := "(II)I" } : MethodName)) ∈ cx_tbl := cx_inw 916 (by decide +kernel) (by decide +kernel)
theorem cw_884 : (.static ({ cls := "CellTestsModel", name := "common", desc := "(II)I" } : MethodName)) ∈ cx_tbl := cx_inw 917 (by decide +kernel) (by decide +kernel)
theorem cw_885 : (.code ({ cls := "CellTestsModel", name := "common", desc := "(II)I" } : MethodName) prog_8_method_13_code (5 : Nat) (Option.some .int)) ∈ cx_tbl := cx_inw 918 (by decide +kernel) (by decide +kernel)
theorem cw_886 : (.methodLink "CellTestsLaw" (50 : Nat) ({ cls := "CellTestsModel", name := "loss", desc := "(II)I" } : MethodName)) ∈ cx_tbl := cx_inw 919 (by decide +kernel) (by decide +kernel)
theorem cw_887 : (.instanceMethod ({ cls := "CellTestsModel", name := "loss", desc := "(II)I" } : MethodName)) ∈ cx_tbl := cx_inw 920 (by decide +kernel) (by decide +kernel)
theorem cw_888 : (.selects "CellTestsModel" ({ cls := "CellTestsModel", name := "loss", desc := "(II)I" } : MethodName) ({ cls := "CellTestsModel", name := "loss", desc := "(II)I" } : MethodName)) ∈ cx_tbl := cx_inw 921 (by decide +kernel) (by decide +kernel)
theorem cw_889 : (.code ({ cls := "CellTestsModel", name := "loss", desc := "(II)I" } : MethodName) prog_8_method_17_code (6 : Nat) (Option.some .int)) ∈ cx_tbl := cx_inw 922 (by decide +kernel) (by decide +kernel)
theorem cw_890 : (.methodLink "CellTestsLaw" (68 : Nat) ({ cls := "CellTestsModel", name := "\x75nsafe", desc := "(I)Z" } : MethodName)) ∈ cx_tbl := cx_inw 923 (by decide +kernel) (by decide +kernel)
theorem cw_891 : (.instanceMethod ({ cls := "CellTestsModel", name := "\x75nsafe", desc := "(I)Z" } : MethodName)) ∈ cx_tbl := cx_inw 924 (by decide +kernel) (by decide +kernel)
theorem cw_892 : (.selects "CellTestsModel" ({ cls := "CellTestsModel", name := "\x75nsafe", desc := "(I)Z" } : MethodName) ({ cls := "CellTestsModel", name := "\x75nsafe", desc := "(I)Z" } : MethodName)) ∈ cx_tbl := cx_inw 925 (by decide +kernel) (by decide +kernel)
theorem cw_893 : (.code ({ cls := "CellTestsModel", name := "\x75nsafe", desc := "(I)Z" } : MethodName) prog_8_method_20_code (4 : Nat) (Option.some .boolean)) ∈ cx_tbl := cx_inw 926 (by decide +kernel) (by decide +kernel)
theorem cw_894 : (.methodLink "CellTestsModel" (116 : Nat) ({ cls := "CellTestsModel", name := "lastRest", desc := "(I)I" } : MethodName)) ∈ cx_tbl := cx_inw 927 (by decide +kernel) (by decide +kernel)
theorem cw_896 : (.instanceMethod ({ cls := "CellTestsModel", name := "lastRest", desc := "(I)I" } : MethodName)) ∈ cx_tbl := cx_inw 929 (by decide +kernel) (by decide +kernel)
theorem cw_897 : (.code ({ cls := "CellTestsModel", name := "lastRest", desc := "(I)I" } : MethodName) prog_8_method_19_code (2 : Nat) (Option.some .int)) ∈ cx_tbl := cx_inw 930 (by decide +kernel) (by decide +kernel)
theorem cw_898 : (.methodLink "CellTestsLaw" (55 : Nat) ({ cls := "CellTestsModel", name := "unit", desc := "(I)Z" } : MethodName)) ∈ cx_tbl := cx_inw 931 (by decide +kernel) (by decide +kernel)
theorem cw_899 : (.instanceMethod ({ cls := "CellTestsModel", name := "unit", desc := "(I)Z" } : MethodName)) ∈ cx_tbl := cx_inw 932 (by decide +kernel) (by decide +kernel)
theorem cw_900 : (.selects "CellTestsModel" ({ cls := "CellTestsModel", name := "unit", desc := "(I)Z" } : MethodName) ({ cls := "CellTestsModel", name := "unit", desc := "(I)Z" } : MethodName)) ∈ cx_tbl := cx_inw 933 (by decide +kernel) (by decide +kernel)
theorem cw_901 : (.code ({ cls := "CellTestsModel", name := "unit", desc := "(I)Z" } : MethodName) prog_8_method_21_code (2 : Nat) (Option.some .boolean)) ∈ cx_tbl := cx_inw 934 (by decide +kernel) (by decide +kernel)
theorem cw_902 : (.constantLong "CellTestsModel" (119 : Nat) (255 : Int64)) ∈ cx_tbl := cx_inw 935 (by decide +kernel) (by decide +kernel)
theorem cw_903 : (.methodLink "CellTestsLaw" (59 : Nat) ({ cls := "CellTestsModel", name := "rules", desc := "()I" } : MethodName)) ∈ cx_tbl := cx_inw 936 (by decide +kernel) (by decide +kernel)
theorem cw_904 : (.instanceMethod ({ cls := "CellTestsModel", name := "rules", desc := "()I" } : MethodName)) ∈ cx_tbl := cx_inw 937 (by decide +kernel) (by decide +kernel)
theorem cw_905 : (.selects "CellTestsModel" ({ cls := "CellTestsModel", name := "rules", desc := "()I" } : MethodName) ({ cls := "CellTestsModel", name := "rules", desc := "()I" } : MethodName)) ∈ cx_tbl := cx_inw 938 (by decide +kernel) (by decide +kernel)
theorem cw_906 : (.code ({ cls := "CellTestsModel", name := "rules", desc := "()I" } : MethodName) prog_8_method_27_code (6 : Nat) (Option.some .int)) ∈ cx_tbl := cx_inw 939 (by decide +kernel) (by decide +kernel)
theorem cw_907 : (.methodLink "CellTestsModel" (139 : Nat) ({ cls := "CellTestsModel", name := "next", desc := "()Z" } : MethodName)) ∈ cx_tbl := cx_inw 940 (by decide +kernel) (by decide +kernel)
theorem cw_909 : (.instanceMethod ({ cls := "CellTestsModel", name := "next", desc := "()Z" } : MethodName)) ∈ cx_tbl := cx_inw 942 (by decide +kernel) (by decide +kernel)
theorem cw_910 : (.code ({ cls := "CellTestsModel", name := "next", desc := "()Z" } : MethodName) prog_8_method_23_code (1 : Nat) (Option.some .boolean)) ∈ cx_tbl := cx_inw 943 (by decide +kernel) (by decide +kernel)
theorem cw_911 : (.methodLink "CellTestsModel" (129 : Nat) ({ cls := "CellTestsModel", name := "isBlank", desc := "(I)Z" } : MethodName)) ∈ cx_tbl := cx_inw 944 (by decide +kernel) (by decide +kernel)
theorem cw_912 : (.static ({ cls := "CellTestsModel", name := "isBlank", desc := "(I)Z" } : MethodName)) ∈ cx_tbl := cx_inw 945 (by decide +kernel) (by decide +kernel)
theorem cw_913 : (.code ({ cls := "CellTestsModel", name := "isBlank", desc := "(I)Z" } : MethodName) prog_8_method_22_code (1 : Nat) (Option.some .boolean)) ∈ cx_tbl := cx_inw 946 (by decide +kernel) (by decide +kernel)
theorem cw_914 : (.methodLink "CellTestsModel" (143 : Nat) ({ cls := "CellTestsModel", name := "numberAt", desc := "()I" } : MethodName)) ∈ cx_tbl := cx_inw 947 (by decide +kernel) (by decide +kernel)
theorem cw_916 : (.instanceMethod ({ cls := "CellTestsModel", name := "numberAt", desc := "()I" } : MethodName)) ∈ cx_tbl := cx_inw 949 (by decide +kernel) (by decide +kernel)
theorem cw_917 : (.code ({ cls := "CellTestsModel", name := "numberAt", desc := "()I" } : MethodName) prog_8_method_26_code (5 : Nat) (Option.some .int)) ∈ cx_tbl := cx_inw 950 (by decide +kernel) (by decide +kernel)
theorem cw_918 : (.constant "CellTestsModel" (132 : Nat) (-10000000 : Int32)) ∈ cx_tbl := cx_inw 951 (by decide +kernel) (by decide +kernel)
theorem cw_919 : (.constantLong "CellTestsModel" (147 : Nat) (98 : Int64)) ∈ cx_tbl := cx_inw 952 (by decide +kernel) (by decide +kernel)
theorem cw_920 : (.methodLink "CellTestsModel" (149 : Nat) ({ cls := "CellTestsModel", name := "isClass", desc := "()Z" } : MethodName)) ∈ cx_tbl := cx_inw 953 (by decide +kernel) (by decide +kernel)
theorem cw_922 : (.instanceMethod ({ cls := "CellTestsModel", name := "isClass", desc := "()Z" } : MethodName)) ∈ cx_tbl := cx_inw 955 (by decide +kernel) (by decide +kernel)
theorem cw_923 : (.code ({ cls := "CellTestsModel", name := "isClass", desc := "()Z" } : MethodName) prog_8_method_24_code (1 : Nat) (Option.some .boolean)) ∈ cx_tbl := cx_inw 956 (by decide +kernel) (by decide +kernel)
theorem cw_924 : (.methodLink "CellTestsModel" (152 : Nat) ({ cls := "CellTestsModel", name := "isLetter", desc := "()Z" } : MethodName)) ∈ cx_tbl := cx_inw 957 (by decide +kernel) (by decide +kernel)
theorem cw_926 : (.instanceMethod ({ cls := "CellTestsModel", name := "isLetter", desc := "()Z" } : MethodName)) ∈ cx_tbl := cx_inw 959 (by decide +kernel) (by decide +kernel)
theorem cw_927 : (.code ({ cls := "CellTestsModel", name := "isLetter", desc := "()Z" } : MethodName) prog_8_method_25_code (1 : Nat) (Option.some .boolean)) ∈ cx_tbl := cx_inw 960 (by decide +kernel) (by decide +kernel)
theorem cw_928 : (.methodLink "CellTestsModel" (155 : Nat) ({ cls := "CellTestsModel", name := "take", desc := "(II)I" } : MethodName)) ∈ cx_tbl := cx_inw 961 (by decide +kernel) (by decide +kernel)
theorem cw_930 : (.instanceMethod ({ cls := "CellTestsModel", name := "take", desc := "(II)I" } : MethodName)) ∈ cx_tbl := cx_inw 963 (by decide +kernel) (by decide +kernel)
theorem cw_931 : (.code ({ cls := "CellTestsModel", name := "take", desc := "(II)I" } : MethodName) prog_8_method_28_code (3 : Nat) (Option.some .int)) ∈ cx_tbl := cx_inw 964 (by decide +kernel) (by decide +kernel)
theorem cw_932 : (.methodLink "CellTestsLaw" (64 : Nat) ({ cls := "CellTestsModel", name := "cls", desc := "(I)I" } : MethodName)) ∈ cx_tbl := cx_inw 965 (by decide +kernel) (by decide +kernel)
theorem cw_933 : (.instanceMethod ({ cls := "CellTestsModel", name := "cls", desc := "(I)I" } : MethodName)) ∈ cx_tbl := cx_inw 966 (by decide +kernel) (by decide +kernel)
theorem cw_934 : (.selects "CellTestsModel" ({ cls := "CellTestsModel", name := "cls", desc := "(I)I" } : MethodName) ({ cls := "CellTestsModel", name := "cls", desc := "(I)I" } : MethodName)) ∈ cx_tbl := cx_inw 967 (by decide +kernel) (by decide +kernel)
theorem cw_935 : (.code ({ cls := "CellTestsModel", name := "cls", desc := "(I)I" } : MethodName) prog_8_method_30_code (5 : Nat) (Option.some .int)) ∈ cx_tbl := cx_inw 968 (by decide +kernel) (by decide +kernel)
theorem cw_936 : (.methodLink "CellTestsModel" (168 : Nat) ({ cls := "CellTestsModel", name := "isOpen", desc := "(I)Z" } : MethodName)) ∈ cx_tbl := cx_inw 969 (by decide +kernel) (by decide +kernel)
theorem cw_938 : (.instanceMethod ({ cls := "CellTestsModel", name := "isOpen", desc := "(I)Z" } : MethodName)) ∈ cx_tbl := cx_inw 971 (by decide +kernel) (by decide +kernel)
theorem cw_939 : (.code ({ cls := "CellTestsModel", name := "isOpen", desc := "(I)Z" } : MethodName) prog_8_method_18_code (2 : Nat) (Option.some .boolean)) ∈ cx_tbl := cx_inw 972 (by decide +kernel) (by decide +kernel)
theorem cw_940 : (.methodLink "CellTestsModel" (171 : Nat) ({ cls := "CellTestsModel", name := "holds", desc := "(II)Z" } : MethodName)) ∈ cx_tbl := cx_inw 973 (by decide +kernel) (by decide +kernel)
theorem cw_942 : (.instanceMethod ({ cls := "CellTestsModel", name := "holds", desc := "(II)Z" } : MethodName)) ∈ cx_tbl := cx_inw 975 (by decide +kernel) (by decide +kernel)
theorem cw_943 : (.code ({ cls := "CellTestsModel", name := "holds", desc := "(II)Z" } : MethodName) prog_8_method_29_code (8 : Nat) (Option.some .boolean)) ∈ cx_tbl := cx_inw 976 (by decide +kernel) (by decide +kernel)
theorem cw_944 : (.methodLink "CellTestsModel" (161 : Nat) ({ cls := "CellTestsModel", name := "charge", desc := "(I)J" } : MethodName)) ∈ cx_tbl := cx_inw 977 (by decide +kernel) (by decide +kernel)
theorem cw_945 : (.methodLink "CellTestsModel" (165 : Nat) ({ cls := "CellTestsModel", name := "resistance", desc := "(II)I" } : MethodName)) ∈ cx_tbl := cx_inw 978 (by decide +kernel) (by decide +kernel)
theorem cw_946 : (.methodLink "CellTestsLaw" (72 : Nat) ({ cls := "CellTestsModel", name := "may", desc := "(II)Z" } : MethodName)) ∈ cx_tbl := cx_inw 979 (by decide +kernel) (by decide +kernel)
theorem cw_947 : (.instanceMethod ({ cls := "CellTestsModel", name := "may", desc := "(II)Z" } : MethodName)) ∈ cx_tbl := cx_inw 980 (by decide +kernel) (by decide +kernel)
theorem cw_948 : (.selects "CellTestsModel" ({ cls := "CellTestsModel", name := "may", desc := "(II)Z" } : MethodName) ({ cls := "CellTestsModel", name := "may", desc := "(II)Z" } : MethodName)) ∈ cx_tbl := cx_inw 981 (by decide +kernel) (by decide +kernel)
theorem cw_949 : (.code ({ cls := "CellTestsModel", name := "may", desc := "(II)Z" } : MethodName) prog_8_method_31_code (3 : Nat) (Option.some .boolean)) ∈ cx_tbl := cx_inw 982 (by decide +kernel) (by decide +kernel)
theorem cw_950 : (.constantLong "CellTestsModel" (175 : Nat) (4 : Int64)) ∈ cx_tbl := cx_inw 983 (by decide +kernel) (by decide +kernel)
theorem cw_951 : (.methodLink "CellTestsModel" (177 : Nat) ({ cls := "CellTestsModel", name := "\x75nsafe", desc := "(I)Z" } : MethodName)) ∈ cx_tbl := cx_inw 984 (by decide +kernel) (by decide +kernel)
theorem cw_952 : (.methodLink "CellTestsLaw" (77 : Nat) ({ cls := "CellTestsModel", name := "pack", desc := "(II)J" } : MethodName)) ∈ cx_tbl := cx_inw 985 (by decide +kernel) (by decide +kernel)
theorem cw_953 : (.instanceMethod ({ cls := "CellTestsModel", name := "pack", desc := "(II)J" } : MethodName)) ∈ cx_tbl := cx_inw 986 (by decide +kernel) (by decide +kernel)
theorem cw_954 : (.selects "CellTestsModel" ({ cls := "CellTestsModel", name := "pack", desc := "(II)J" } : MethodName) ({ cls := "CellTestsModel", name := "pack", desc := "(II)J" } : MethodName)) ∈ cx_tbl := cx_inw 987 (by decide +kernel) (by decide +kernel)
theorem cw_955 : (.code ({ cls := "CellTestsModel", name := "pack", desc := "(II)J" } : MethodName) prog_8_method_36_code (10 : Nat) (Option.some .long)) ∈ cx_tbl := cx_inw 988 (by decide +kernel) (by decide +kernel)
theorem cw_956 : (.constantLong "CellTestsModel" (180 : Nat) (-1 : Int64)) ∈ cx_tbl := cx_inw 989 (by decide +kernel) (by decide +kernel)
theorem cw_957 : (.methodLink "CellTestsModel" (182 : Nat) ({ cls := "CellTestsModel", name := "isWhole", desc := "(I)Z" } : MethodName)) ∈ cx_tbl := cx_inw 990 (by decide +kernel) (by decide +kernel)
theorem cw_959 : (.instanceMethod ({ cls := "CellTestsModel", name := "isWhole", desc := "(I)Z" } : MethodName)) ∈ cx_tbl := cx_inw 992 (by decide +kernel) (by decide +kernel)
theorem cw_960 : (.code ({ cls := "CellTestsModel", name := "isWhole", desc := "(I)Z" } : MethodName) prog_8_method_32_code (2 : Nat) (Option.some .boolean)) ∈ cx_tbl := cx_inw 993 (by decide +kernel) (by decide +kernel)
theorem cw_961 : (.methodLink "CellTestsModel" (185 : Nat) ({ cls := "CellTestsModel", name := "mayBe", desc := "(II)Z" } : MethodName)) ∈ cx_tbl := cx_inw 994 (by decide +kernel) (by decide +kernel)
theorem cw_963 : (.instanceMethod ({ cls := "CellTestsModel", name := "mayBe", desc := "(II)Z" } : MethodName)) ∈ cx_tbl := cx_inw 996 (by decide +kernel) (by decide +kernel)
theorem cw_964 : (.code ({ cls := "CellTestsModel", name := "mayBe", desc := "(II)Z" } : MethodName) prog_8_method_35_code (5 : Nat) (Option.some .boolean)) ∈ cx_tbl := cx_inw 997 (by decide +kernel) (by decide +kernel)
theorem cw_965 : (.methodLink "CellTestsModel" (188 : Nat) ({ cls := "CellTestsModel", name := "spread", desc := "(II)J" } : MethodName)) ∈ cx_tbl := cx_inw 998 (by decide +kernel) (by decide +kernel)
theorem cw_967 : (.instanceMethod ({ cls := "CellTestsModel", name := "spread", desc := "(II)J" } : MethodName)) ∈ cx_tbl := cx_inw 1000 (by decide +kernel) (by decide +kernel)
theorem cw_968 : (.code ({ cls := "CellTestsModel", name := "spread", desc := "(II)J" } : MethodName) prog_8_method_33_code (16 : Nat) (Option.some .long)) ∈ cx_tbl := cx_inw 1001 (by decide +kernel) (by decide +kernel)
theorem cw_969 : (.methodLink "CellTestsModel" (192 : Nat) ({ cls := "CellTestsModel", name := "turn", desc := "(I)Z" } : MethodName)) ∈ cx_tbl := cx_inw 1002 (by decide +kernel) (by decide +kernel)
theorem cw_971 : (.instanceMethod ({ cls := "CellTestsModel", name := "turn", desc := "(I)Z" } : MethodName)) ∈ cx_tbl := cx_inw 1004 (by decide +kernel) (by decide +kernel)
theorem cw_972 : (.code ({ cls := "CellTestsModel", name := "turn", desc := "(I)Z" } : MethodName) prog_8_method_34_code (3 : Nat) (Option.some .boolean)) ∈ cx_tbl := cx_inw 1005 (by decide +kernel) (by decide +kernel)
theorem cw_973 : (.methodLink "CellTestsLaw" (81 : Nat) ({ cls := "CellTestsModel", name := "packOf", desc := "(I)I" } : MethodName)) ∈ cx_tbl := cx_inw 1006 (by decide +kernel) (by decide +kernel)
theorem cw_974 : (.instanceMethod ({ cls := "CellTestsModel", name := "packOf", desc := "(I)I" } : MethodName)) ∈ cx_tbl := cx_inw 1007 (by decide +kernel) (by decide +kernel)
theorem cw_975 : (.selects "CellTestsModel" ({ cls := "CellTestsModel", name := "packOf", desc := "(I)I" } : MethodName) ({ cls := "CellTestsModel", name := "packOf", desc := "(I)I" } : MethodName)) ∈ cx_tbl := cx_inw 1008 (by decide +kernel) (by decide +kernel)
theorem cw_976 : (.code ({ cls := "CellTestsModel", name := "packOf", desc := "(I)I" } : MethodName) prog_8_method_37_code (2 : Nat) (Option.some .int)) ∈ cx_tbl := cx_inw 1009 (by decide +kernel) (by decide +kernel)
theorem cw_977 : (.methodLink "CellTestsLaw" (85 : Nat) ({ cls := "CellTestsModel", name := "row", desc := "(II)Z" } : MethodName)) ∈ cx_tbl := cx_inw 1010 (by decide +kernel) (by decide +kernel)
theorem cw_978 : (.instanceMethod ({ cls := "CellTestsModel", name := "row", desc := "(II)Z" } : MethodName)) ∈ cx_tbl := cx_inw 1011 (by decide +kernel) (by decide +kernel)
theorem cw_979 : (.selects "CellTestsModel" ({ cls := "CellTestsModel", name := "row", desc := "(II)Z" } : MethodName) ({ cls := "CellTestsModel", name := "row", desc := "(II)Z" } : MethodName)) ∈ cx_tbl := cx_inw 1012 (by decide +kernel) (by decide +kernel)
theorem cw_980 : (.code ({ cls := "CellTestsModel", name := "row", desc := "(II)Z" } : MethodName) prog_8_method_38_code (3 : Nat) (Option.some .boolean)) ∈ cx_tbl := cx_inw 1013 (by decide +kernel) (by decide +kernel)
theorem cw_981 : (.constantLong "CellTestsModel" (198 : Nat) (1000 : Int64)) ∈ cx_tbl := cx_inw 1014 (by decide +kernel) (by decide +kernel)
theorem cw_982 : (.methodLink "CellTestsLaw" (89 : Nat) ({ cls := "CellTestsModel", name := "fade", desc := "(II)J" } : MethodName)) ∈ cx_tbl := cx_inw 1015 (by decide +kernel) (by decide +kernel)
theorem cw_983 : (.instanceMethod ({ cls := "CellTestsModel", name := "fade", desc := "(II)J" } : MethodName)) ∈ cx_tbl := cx_inw 1016 (by decide +kernel) (by decide +kernel)
theorem cw_984 : (.selects "CellTestsModel" ({ cls := "CellTestsModel", name := "fade", desc := "(II)J" } : MethodName) ({ cls := "CellTestsModel", name := "fade", desc := "(II)J" } : MethodName)) ∈ cx_tbl := cx_inw 1017 (by decide +kernel) (by decide +kernel)
theorem cw_985 : (.code ({ cls := "CellTestsModel", name := "fade", desc := "(II)J" } : MethodName) prog_8_method_39_code (9 : Nat) (Option.some .long)) ∈ cx_tbl := cx_inw 1018 (by decide +kernel) (by decide +kernel)
theorem cw_986 : (.methodLink "CellTestsLaw" (93 : Nat) ({ cls := "CellTestsModel", name := "record", desc := "(II)I" } : MethodName)) ∈ cx_tbl := cx_inw 1019 (by decide +kernel) (by decide +kernel)
theorem cw_987 : (.instanceMethod ({ cls := "CellTestsModel", name := "record", desc := "(II)I" } : MethodName)) ∈ cx_tbl := cx_inw 1020 (by decide +kernel) (by decide +kernel)
theorem cw_988 : (.selects "CellTestsModel" ({ cls := "CellTestsModel", name := "record", desc := "(II)I" } : MethodName) ({ cls := "CellTestsModel", name := "record", desc := "(II)I" } : MethodName)) ∈ cx_tbl := cx_inw 1021 (by decide +kernel) (by decide +kernel)
theorem cw_989 : (.code ({ cls := "CellTestsModel", name := "record", desc := "(II)I" } : MethodName) prog_8_method_42_code (3 : Nat) (Option.some .int)) ∈ cx_tbl := cx_inw 1022 (by decide +kernel) (by decide +kernel)
theorem cw_990 : (.methodLink "CellTestsModel" (216 : Nat) ({ cls := "CellTestsModel", name := "putNumber", desc := "(J)V" } : MethodName)) ∈ cx_tbl := cx_inw 1023 (by decide +kernel) (by decide +kernel)
theorem cw_992 : (.instanceMethod ({ cls := "CellTestsModel", name := "putNumber", desc := "(J)V" } : MethodName)) ∈ cx_tbl := cx_inw 1025 (by decide +kernel) (by decide +kernel)
theorem cw_993 : (.code ({ cls := "CellTestsModel", name := "putNumber", desc := "(J)V" } : MethodName) prog_8_method_41_code (7 : Nat) (Option.none : Option Jvm.ClassFile.FieldType)) ∈ cx_tbl := cx_inw 1026 (by decide +kernel) (by decide +kernel)
theorem cw_994 : (.methodLink "CellTestsModel" (206 : Nat) ({ cls := "CellTestsModel", name := "put", desc := "(I)V" } : MethodName)) ∈ cx_tbl := cx_inw 1027 (by decide +kernel) (by decide +kernel)
theorem cw_996 : (.instanceMethod ({ cls := "CellTestsModel", name := "put", desc := "(I)V" } : MethodName)) ∈ cx_tbl := cx_inw 1029 (by decide +kernel) (by decide +kernel)
theorem cw_997 : (.code ({ cls := "CellTestsModel", name := "put", desc := "(I)V" } : MethodName) prog_8_method_40_code (2 : Nat) (Option.none : Option Jvm.ClassFile.FieldType)) ∈ cx_tbl := cx_inw 1030 (by decide +kernel) (by decide +kernel)
theorem cw_998 : (.constantLong "CellTestsModel" (210 : Nat) (9 : Int64)) ∈ cx_tbl := cx_inw 1031 (by decide +kernel) (by decide +kernel)
theorem cw_999 : (.constantLong "CellTestsModel" (212 : Nat) (10 : Int64)) ∈ cx_tbl := cx_inw 1032 (by decide +kernel) (by decide +kernel)
theorem cw_1000 : (.constantLong "CellTestsModel" (214 : Nat) (48 : Int64)) ∈ cx_tbl := cx_inw 1033 (by decide +kernel) (by decide +kernel)
theorem cw_1001 : (.methodLink "CellTestsModel" (220 : Nat) ({ cls := "CellTestsModel", name := "cls", desc := "(I)I" } : MethodName)) ∈ cx_tbl := cx_inw 1034 (by decide +kernel) (by decide +kernel)
theorem cw_1002 : (.sameMethod "java/lang/AbstractStringBuilder" "java/lang/AbstractStringBuilder" "setLength" "(I)V") ∈ cx_tbl := cx_inw 1035 (by decide +kernel) (by decide +kernel)
theorem cw_1003 : (.sameMethod "java/lang/AbstractStringBuilder" "java/lang/AbstractStringBuilder" "ensureCapacityInternal" "(I)V") ∈ cx_tbl := cx_inw 1036 (by decide +kernel) (by decide +kernel)
theorem cw_1004 : (.sameMethod "java/lang/AbstractStringBuilder" "java/lang/AbstractStringBuilder" "newCapacity" "(I)I") ∈ cx_tbl := cx_inw 1037 (by decide +kernel) (by decide +kernel)
theorem cw_1005 : (.sameMethod "java/lang/AbstractStringBuilder" "java/lang/AbstractStringBuilder" "append" "(I)Ljava/lang/AbstractStringBuilder;") ∈ cx_tbl := cx_inw 1038 (by decide +kernel) (by decide +kernel)
theorem cw_1006 : (.sameMethod "java/lang/AbstractStringBuilder" "java/lang/AbstractStringBuilder" "append" "(C)Ljava/lang/AbstractStringBuilder;") ∈ cx_tbl := cx_inw 1039 (by decide +kernel) (by decide +kernel)
theorem cw_1007 : (.sameMethod "java/lang/AbstractStringBuilder" "java/lang/AbstractStringBuilder" "inflate" "()V") ∈ cx_tbl := cx_inw 1040 (by decide +kernel) (by decide +kernel)
theorem cw_1008 : (.sameMethod "java/lang/AbstractStringBuilder" "java/lang/AbstractStringBuilder" "length" "()I") ∈ cx_tbl := cx_inw 1041 (by decide +kernel) (by decide +kernel)
theorem cw_1009 : (.sameMethod "java/lang/AbstractStringBuilder" "java/lang/AbstractStringBuilder" "charAt" "(I)C") ∈ cx_tbl := cx_inw 1042 (by decide +kernel) (by decide +kernel)
theorem cw_1010 : (.fieldLink "java/lang/String" (9 : Nat) "java/lang/String" "value" "[B") ∈ cx_tbl := cx_inw 1043 (by decide +kernel) (by decide +kernel)
theorem cw_1011 : (.fieldLink "java/lang/String" (15 : Nat) "java/lang/String" "coder" "B") ∈ cx_tbl := cx_inw 1044 (by decide +kernel) (by decide +kernel)
theorem cs_0 : (.selects "CellTests" ⟨"CellTests", "cellOf", "(I)LCellTests$Cell;"⟩ ⟨"CellTests", "cellOf", "(I)LCellTests$Cell;"⟩ : Cond) ∈ cx_tbl := cx_inw 0 (by decide +kernel) (by decide +kernel)
theorem cs_1 : (.selects "CellTests" ⟨"CellTests", "isInSpan", "(LCellTests$Cell;)Z"⟩ ⟨"CellTests", "isInSpan", "(LCellTests$Cell;)Z"⟩ : Cond) ∈ cx_tbl := cx_inw 1 (by decide +kernel) (by decide +kernel)
theorem cs_2 : (.selects "CellTests$RuleText" ⟨"CellTests$RuleText", "takeWord", "(LCellTests$RuleSet;II)Z"⟩ ⟨"CellTests$RuleText", "takeWord", "(LCellTests$RuleSet;II)Z"⟩ : Cond) ∈ cx_tbl := cx_inw 2 (by decide +kernel) (by decide +kernel)
theorem cs_3 : (.selects "CellTests$RuleText" ⟨"CellTests$RuleText", "takeClassWord", "(LCellTests$RuleSet;II)Z"⟩ ⟨"CellTests$RuleText", "takeClassWord", "(LCellTests$RuleSet;II)Z"⟩ : Cond) ∈ cx_tbl := cx_inw 3 (by decide +kernel) (by decide +kernel)
theorem cs_4 : (.selects "CellTests$RuleText" ⟨"CellTests$RuleText", "isClassWord", "(II)Z"⟩ ⟨"CellTests$RuleText", "isClassWord", "(II)Z"⟩ : Cond) ∈ cx_tbl := cx_inw 4 (by decide +kernel) (by decide +kernel)
theorem cs_5 : (.selects "CellTests$RuleText" ⟨"CellTests$RuleText", "numberIn", "(II)I"⟩ ⟨"CellTests$RuleText", "numberIn", "(II)I"⟩ : Cond) ∈ cx_tbl := cx_inw 5 (by decide +kernel) (by decide +kernel)
theorem cs_6 : (.selects "CellTests$RuleText" ⟨"CellTests$RuleText", "takeClassNumber", "(LCellTests$RuleSet;I)Z"⟩ ⟨"CellTests$RuleText", "takeClassNumber", "(LCellTests$RuleSet;I)Z"⟩ : Cond) ∈ cx_tbl := cx_inw 6 (by decide +kernel) (by decide +kernel)
theorem cs_7 : (.selects "CellTests$RuleText" ⟨"CellTests$RuleText", "takeLetter", "(II)Z"⟩ ⟨"CellTests$RuleText", "takeLetter", "(II)Z"⟩ : Cond) ∈ cx_tbl := cx_inw 7 (by decide +kernel) (by decide +kernel)
theorem cs_8 : (.selects "CellTests$RuleText" ⟨"CellTests$RuleText", "takeLow", "(I)Z"⟩ ⟨"CellTests$RuleText", "takeLow", "(I)Z"⟩ : Cond) ∈ cx_tbl := cx_inw 8 (by decide +kernel) (by decide +kernel)
theorem cs_9 : (.selects "CellTests$RuleText" ⟨"CellTests$RuleText", "takeHigh", "(LCellTests$RuleSet;I)Z"⟩ ⟨"CellTests$RuleText", "takeHigh", "(LCellTests$RuleSet;I)Z"⟩ : Cond) ∈ cx_tbl := cx_inw 9 (by decide +kernel) (by decide +kernel)
theorem cs_10 : (.selects "CellTests" ⟨"CellTests", "classOf", "(LCellTests$Cell;)I"⟩ ⟨"CellTests", "classOf", "(LCellTests$Cell;)I"⟩ : Cond) ∈ cx_tbl := cx_inw 10 (by decide +kernel) (by decide +kernel)
theorem cs_11 : (.selects "CellTests$RuleSet" ⟨"CellTests$RuleSet", "allHold", "(LCellTests$Cell;II)Z"⟩ ⟨"CellTests$RuleSet", "allHold", "(LCellTests$Cell;II)Z"⟩ : Cond) ∈ cx_tbl := cx_inw 11 (by decide +kernel) (by decide +kernel)
theorem cs_12 : (.selects "CellTests$RuleSet" ⟨"CellTests$RuleSet", "holds", "(LCellTests$Cell;I)Z"⟩ ⟨"CellTests$RuleSet", "holds", "(LCellTests$Cell;I)Z"⟩ : Cond) ∈ cx_tbl := cx_inw 12 (by decide +kernel) (by decide +kernel)
theorem cs_13 : (.selects "CellTests$Packer" ⟨"CellTests$Packer", "place", "(IIIJ)V"⟩ ⟨"CellTests$Packer", "place", "(IIIJ)V"⟩ : Cond) ∈ cx_tbl := cx_inw 13 (by decide +kernel) (by decide +kernel)
theorem cs_14 : (.selects "CellTests$Packer" ⟨"CellTests$Packer", "keep", "(J)V"⟩ ⟨"CellTests$Packer", "keep", "(J)V"⟩ : Cond) ∈ cx_tbl := cx_inw 14 (by decide +kernel) (by decide +kernel)
theorem cs_15 : (.selects "CellTests$Packer" ⟨"CellTests$Packer", "placeIn", "(IIIIJ)V"⟩ ⟨"CellTests$Packer", "placeIn", "(IIIIJ)V"⟩ : Cond) ∈ cx_tbl := cx_inw 15 (by decide +kernel) (by decide +kernel)
theorem cs_16 : (.selects "CellTestsModel" ⟨"CellTestsModel", "isCell", "(I)Z"⟩ ⟨"CellTestsModel", "isCell", "(I)Z"⟩ : Cond) ∈ cx_tbl := cx_inw 16 (by decide +kernel) (by decide +kernel)
theorem cs_17 : (.selects "CellTestsModel" ⟨"CellTestsModel", "isInSpan", "(I)Z"⟩ ⟨"CellTestsModel", "isInSpan", "(I)Z"⟩ : Cond) ∈ cx_tbl := cx_inw 17 (by decide +kernel) (by decide +kernel)
theorem cs_18 : (.selects "CellTestsModel" ⟨"CellTestsModel", "turnOf", "(I)I"⟩ ⟨"CellTestsModel", "turnOf", "(I)I"⟩ : Cond) ∈ cx_tbl := cx_inw 18 (by decide +kernel) (by decide +kernel)
theorem cs_19 : (.selects "CellTestsModel" ⟨"CellTestsModel", "lastRest", "(I)I"⟩ ⟨"CellTestsModel", "lastRest", "(I)I"⟩ : Cond) ∈ cx_tbl := cx_inw 19 (by decide +kernel) (by decide +kernel)
theorem cs_20 : (.selects "CellTestsModel" ⟨"CellTestsModel", "next", "()Z"⟩ ⟨"CellTestsModel", "next", "()Z"⟩ : Cond) ∈ cx_tbl := cx_inw 20 (by decide +kernel) (by decide +kernel)
theorem cs_21 : (.selects "CellTestsModel" ⟨"CellTestsModel", "numberAt", "()I"⟩ ⟨"CellTestsModel", "numberAt", "()I"⟩ : Cond) ∈ cx_tbl := cx_inw 21 (by decide +kernel) (by decide +kernel)
theorem cs_22 : (.selects "CellTestsModel" ⟨"CellTestsModel", "isClass", "()Z"⟩ ⟨"CellTestsModel", "isClass", "()Z"⟩ : Cond) ∈ cx_tbl := cx_inw 22 (by decide +kernel) (by decide +kernel)
theorem cs_23 : (.selects "CellTestsModel" ⟨"CellTestsModel", "isLetter", "()Z"⟩ ⟨"CellTestsModel", "isLetter", "()Z"⟩ : Cond) ∈ cx_tbl := cx_inw 23 (by decide +kernel) (by decide +kernel)
theorem cs_24 : (.selects "CellTestsModel" ⟨"CellTestsModel", "take", "(II)I"⟩ ⟨"CellTestsModel", "take", "(II)I"⟩ : Cond) ∈ cx_tbl := cx_inw 24 (by decide +kernel) (by decide +kernel)
theorem cs_25 : (.selects "CellTestsModel" ⟨"CellTestsModel", "isOpen", "(I)Z"⟩ ⟨"CellTestsModel", "isOpen", "(I)Z"⟩ : Cond) ∈ cx_tbl := cx_inw 25 (by decide +kernel) (by decide +kernel)
theorem cs_26 : (.selects "CellTestsModel" ⟨"CellTestsModel", "holds", "(II)Z"⟩ ⟨"CellTestsModel", "holds", "(II)Z"⟩ : Cond) ∈ cx_tbl := cx_inw 26 (by decide +kernel) (by decide +kernel)
theorem cs_27 : (.selects "CellTestsModel" ⟨"CellTestsModel", "isWhole", "(I)Z"⟩ ⟨"CellTestsModel", "isWhole", "(I)Z"⟩ : Cond) ∈ cx_tbl := cx_inw 27 (by decide +kernel) (by decide +kernel)
theorem cs_28 : (.selects "CellTestsModel" ⟨"CellTestsModel", "mayBe", "(II)Z"⟩ ⟨"CellTestsModel", "mayBe", "(II)Z"⟩ : Cond) ∈ cx_tbl := cx_inw 28 (by decide +kernel) (by decide +kernel)
theorem cs_29 : (.selects "CellTestsModel" ⟨"CellTestsModel", "spread", "(II)J"⟩ ⟨"CellTestsModel", "spread", "(II)J"⟩ : Cond) ∈ cx_tbl := cx_inw 29 (by decide +kernel) (by decide +kernel)
theorem cs_30 : (.selects "CellTestsModel" ⟨"CellTestsModel", "turn", "(I)Z"⟩ ⟨"CellTestsModel", "turn", "(I)Z"⟩ : Cond) ∈ cx_tbl := cx_inw 30 (by decide +kernel) (by decide +kernel)
theorem cs_31 : (.selects "CellTestsModel" ⟨"CellTestsModel", "putNumber", "(J)V"⟩ ⟨"CellTestsModel", "putNumber", "(J)V"⟩ : Cond) ∈ cx_tbl := cx_inw 31 (by decide +kernel) (by decide +kernel)
theorem cs_32 : (.selects "CellTestsModel" ⟨"CellTestsModel", "put", "(I)V"⟩ ⟨"CellTestsModel", "put", "(I)V"⟩ : Cond) ∈ cx_tbl := cx_inw 32 (by decide +kernel) (by decide +kernel)
theorem cg_Ct_init : GoodIn cx_tbl ws_Ct_init := cx_good cw_23
theorem cg_Text_init : GoodIn cx_tbl ws_Text_init := cx_good cw_34
theorem cg_Set_init : GoodIn cx_tbl ws_Set_init := cx_good cw_57
theorem cg_Pack_init : GoodIn cx_tbl ws_Pack_init := cx_good cw_87
theorem cg_Fade_init : GoodIn cx_tbl ws_Fade_init := cx_good cw_128
theorem cg_Sb_init : GoodIn cx_tbl ws_Sb_init := cx_good cw_144
theorem cg_Asb_init : GoodIn cx_tbl ws_Asb_init := cx_good cw_147
theorem cg_JStringUTF16_newBytesFor : GoodIn cx_tbl ws_JStringUTF16_newBytesFor := cx_good cw_153
theorem cg_JStringUTF16_newBytesLength : GoodIn cx_tbl ws_JStringUTF16_newBytesLength := cx_good cw_156
theorem cg_Ct_cell : GoodIn cx_tbl ws_Ct_cell := cx_good cw_206
theorem cg_Cell_init : GoodIn cx_tbl ws_Cell_init := cx_good cw_210
theorem cg_Ct_span : GoodIn cx_tbl ws_Ct_span := cx_good cw_257
theorem cg_Ct_warm : GoodIn cx_tbl ws_Ct_warm := cx_good cw_261
theorem cg_Ct_cellOf : GoodIn cx_tbl ws_Ct_cellOf := cx_good cw_265
theorem cg_Ct_isWithin : GoodIn cx_tbl ws_Ct_isWithin := cx_good cw_269
theorem cg_Ct_isInSpan : GoodIn cx_tbl ws_Ct_isInSpan := cx_good cw_273
theorem cg_Ct_step : GoodIn cx_tbl ws_Ct_step := cx_good cw_277
theorem cg_Cell_addStep : GoodIn cx_tbl ws_Cell_addStep := cx_good cw_281
theorem cg_JMath_abs : GoodIn cx_tbl ws_JMath_abs := cx_good cw_288
theorem cg_Ct_rest : GoodIn cx_tbl ws_Ct_rest := cx_good cw_292
theorem cg_Cell_addRest : GoodIn cx_tbl ws_Cell_addRest := cx_good cw_296
theorem cg_Ct_charge : GoodIn cx_tbl ws_Ct_charge := cx_good cw_300
theorem cg_Cell_chargeNow : GoodIn cx_tbl ws_Cell_chargeNow := cx_good cw_305
theorem cg_JMath_floorDiv : GoodIn cx_tbl ws_JMath_floorDiv := cx_good cw_309
theorem cg_Ct_resistance : GoodIn cx_tbl ws_Ct_resistance := cx_good cw_313
theorem cg_Cell_hasResistance : GoodIn cx_tbl ws_Cell_hasResistance := cx_good cw_317
theorem cg_Ct_partOf : GoodIn cx_tbl ws_Ct_partOf := cx_good cw_320
theorem cg_Ct_commonDivisor : GoodIn cx_tbl ws_Ct_commonDivisor := cx_good cw_323
theorem cg_Ct_loss : GoodIn cx_tbl ws_Ct_loss := cx_good cw_327
theorem cg_Cell_hasLoss : GoodIn cx_tbl ws_Cell_hasLoss := cx_good cw_331
theorem cg_Cell_voltLost : GoodIn cx_tbl ws_Cell_voltLost := cx_good cw_335
theorem cg_JMath_max1 : GoodIn cx_tbl ws_JMath_max1 := cx_good cw_338
theorem cg_Cell_daysBetween : GoodIn cx_tbl ws_Cell_daysBetween := cx_good cw_342
theorem cg_Ct_unit : GoodIn cx_tbl ws_Ct_unit := cx_good cw_346
theorem cg_Text_add : GoodIn cx_tbl ws_Text_add := cx_good cw_351
theorem cg_Ct_rules : GoodIn cx_tbl ws_Ct_rules := cx_good cw_355
theorem cg_Text_readInto : GoodIn cx_tbl ws_Text_readInto := cx_good cw_359
theorem cg_Set_clear : GoodIn cx_tbl ws_Set_clear := cx_good cw_363
theorem cg_Text_isBlank : GoodIn cx_tbl ws_Text_isBlank := cx_good cw_366
theorem cg_Text_takeWord : GoodIn cx_tbl ws_Text_takeWord := cx_good cw_370
theorem cg_Text_takeClassWord : GoodIn cx_tbl ws_Text_takeClassWord := cx_good cw_374
theorem cg_Set_isFull : GoodIn cx_tbl ws_Set_isFull := cx_good cw_378
theorem cg_Text_isClassWord : GoodIn cx_tbl ws_Text_isClassWord := cx_good cw_382
theorem cg_JString_length : GoodIn cx_tbl ws_JString_length := cx_good cw_387
theorem cg_JString_coder : GoodIn cx_tbl ws_JString_coder := cx_good cw_391
theorem cg_JString_charAt : GoodIn cx_tbl ws_JString_charAt := cx_good cw_396
theorem cg_JString_isLatin1 : GoodIn cx_tbl ws_JString_isLatin1 := cx_good cw_400
theorem cg_JStringLatin1_charAt : GoodIn cx_tbl ws_JStringLatin1_charAt := cx_good cw_403
theorem cg_JString_checkIndex : GoodIn cx_tbl ws_JString_checkIndex := cx_good cw_406
theorem cg_JPreconditions_checkIndex : GoodIn cx_tbl ws_JPreconditions_checkIndex := cx_good cw_411
theorem cg_JStringUTF16_charAt : GoodIn cx_tbl ws_JStringUTF16_charAt := cx_good cw_414
theorem cg_JStringUTF16_checkIndex : GoodIn cx_tbl ws_JStringUTF16_checkIndex := cx_good cw_417
theorem cg_JStringUTF16_length : GoodIn cx_tbl ws_JStringUTF16_length := cx_good cw_420
theorem cg_JStringUTF16_getChar : GoodIn cx_tbl ws_JStringUTF16_getChar := cx_good cw_424
theorem cg_Text_numberIn : GoodIn cx_tbl ws_Text_numberIn := cx_good cw_434
theorem cg_Text_takeClassNumber : GoodIn cx_tbl ws_Text_takeClassNumber := cx_good cw_443
theorem cg_Set_addSentence : GoodIn cx_tbl ws_Set_addSentence := cx_good cw_448
theorem cg_Text_takeLetter : GoodIn cx_tbl ws_Text_takeLetter := cx_good cw_452
theorem cg_Text_takeLow : GoodIn cx_tbl ws_Text_takeLow := cx_good cw_456
theorem cg_Text_takeHigh : GoodIn cx_tbl ws_Text_takeHigh := cx_good cw_460
theorem cg_Set_addClause : GoodIn cx_tbl ws_Set_addClause := cx_good cw_464
theorem cg_Text_clear : GoodIn cx_tbl ws_Text_clear := cx_good cw_468
theorem cg_Ct_cls : GoodIn cx_tbl ws_Ct_cls := cx_good cw_472
theorem cg_Ct_classOf : GoodIn cx_tbl ws_Ct_classOf := cx_good cw_476
theorem cg_Cell_isOpen : GoodIn cx_tbl ws_Cell_isOpen := cx_good cw_480
theorem cg_Set_firstThatHolds : GoodIn cx_tbl ws_Set_firstThatHolds := cx_good cw_484
theorem cg_Set_allHold : GoodIn cx_tbl ws_Set_allHold := cx_good cw_488
theorem cg_Set_holds : GoodIn cx_tbl ws_Set_holds := cx_good cw_492
theorem cg_Ct_uns : GoodIn cx_tbl ws_Ct_uns := cx_good cw_498
theorem cg_Cell_isUnsafe : GoodIn cx_tbl ws_Cell_isUnsafe := cx_good cw_502
theorem cg_Ct_may : GoodIn cx_tbl ws_Ct_may := cx_good cw_508
theorem cg_Ct_pack : GoodIn cx_tbl ws_Ct_pack := cx_good cw_513
theorem cg_Pack_clear : GoodIn cx_tbl ws_Pack_clear := cx_good cw_518
theorem cg_Pack_add : GoodIn cx_tbl ws_Pack_add := cx_good cw_522
theorem cg_Pack_search : GoodIn cx_tbl ws_Pack_search := cx_good cw_526
theorem cg_Pack_place : GoodIn cx_tbl ws_Pack_place := cx_good cw_532
theorem cg_Pack_keep : GoodIn cx_tbl ws_Pack_keep := cx_good cw_536
theorem cg_Pack_placeIn : GoodIn cx_tbl ws_Pack_placeIn := cx_good cw_540
theorem cg_JMath_min1 : GoodIn cx_tbl ws_JMath_min1 := cx_good cw_543
theorem cg_JMath_max2 : GoodIn cx_tbl ws_JMath_max2 := cx_good cw_546
theorem cg_Ct_packOf : GoodIn cx_tbl ws_Ct_packOf := cx_good cw_550
theorem cg_Pack_foundFor : GoodIn cx_tbl ws_Pack_foundFor := cx_good cw_554
theorem cg_Ct_row : GoodIn cx_tbl ws_Ct_row := cx_good cw_558
theorem cg_Fade_add : GoodIn cx_tbl ws_Fade_add := cx_good cw_562
theorem cg_Ct_fade : GoodIn cx_tbl ws_Ct_fade := cx_good cw_569
theorem cg_Fade_leftOf : GoodIn cx_tbl ws_Fade_leftOf := cx_good cw_574
theorem cg_JMath_min2 : GoodIn cx_tbl ws_JMath_min2 := cx_good cw_577
theorem cg_Fade_fadeBy : GoodIn cx_tbl ws_Fade_fadeBy := cx_good cw_580
theorem cg_Ct_record : GoodIn cx_tbl ws_Ct_record := cx_good cw_584
theorem cg_Sb_setLength : GoodIn cx_tbl ws_Sb_setLength := cx_good cw_588
theorem cg_Asb_setLength : GoodIn cx_tbl ws_Asb_setLength := cx_good cw_591
theorem cg_Asb_ensureCapacityInternal : GoodIn cx_tbl ws_Asb_ensureCapacityInternal := cx_good cw_595
theorem cg_Asb_newCapacity : GoodIn cx_tbl ws_Asb_newCapacity := cx_good cw_599
theorem cg_JArraysSupport_newLength : GoodIn cx_tbl ws_JArraysSupport_newLength := cx_good cw_602
theorem cg_JArraysSupport_hugeLength : GoodIn cx_tbl ws_JArraysSupport_hugeLength := cx_good cw_607
theorem cg_JArrays_copyOf : GoodIn cx_tbl ws_JArrays_copyOf := cx_good cw_611
theorem cg_Asb_isLatin1 : GoodIn cx_tbl ws_Asb_isLatin1 := cx_good cw_627
theorem cg_JStringLatin1_fillNull : GoodIn cx_tbl ws_JStringLatin1_fillNull := cx_good cw_630
theorem cg_JArrays_fill : GoodIn cx_tbl ws_JArrays_fill := cx_good cw_633
theorem cg_JArrays_rangeCheck : GoodIn cx_tbl ws_JArrays_rangeCheck := cx_good cw_636
theorem cg_JStringUTF16_fillNull : GoodIn cx_tbl ws_JStringUTF16_fillNull := cx_good cw_639
theorem cg_Sb_append1 : GoodIn cx_tbl ws_Sb_append1 := cx_good cw_644
theorem cg_Asb_append1 : GoodIn cx_tbl ws_Asb_append1 := cx_good cw_647
theorem cg_JInteger_stringSize : GoodIn cx_tbl ws_JInteger_stringSize := cx_good cw_650
theorem cg_JInteger_getChars : GoodIn cx_tbl ws_JInteger_getChars := cx_good cw_653
theorem cg_JStringUTF16_getChars1 : GoodIn cx_tbl ws_JStringUTF16_getChars1 := cx_good cw_660
theorem cg_JStringUTF16_checkBoundsBeginEnd : GoodIn cx_tbl ws_JStringUTF16_checkBoundsBeginEnd := cx_good cw_663
theorem cg_JString_checkBoundsBeginEnd : GoodIn cx_tbl ws_JString_checkBoundsBeginEnd := cx_good cw_666
theorem cg_JPreconditions_checkFromToIndex : GoodIn cx_tbl ws_JPreconditions_checkFromToIndex := cx_good cw_669
theorem cg_JStringUTF16_getChars2 : GoodIn cx_tbl ws_JStringUTF16_getChars2 := cx_good cw_672
theorem cg_JStringUTF16_putChar : GoodIn cx_tbl ws_JStringUTF16_putChar := cx_good cw_676
theorem cg_Sb_append2 : GoodIn cx_tbl ws_Sb_append2 := cx_good cw_681
theorem cg_Asb_append2 : GoodIn cx_tbl ws_Asb_append2 := cx_good cw_684
theorem cg_JStringLatin1_canEncode : GoodIn cx_tbl ws_JStringLatin1_canEncode := cx_good cw_687
theorem cg_Asb_inflate : GoodIn cx_tbl ws_Asb_inflate := cx_good cw_691
theorem cg_JStringLatin1_inflate : GoodIn cx_tbl ws_JStringLatin1_inflate := cx_good cw_694
theorem cg_JStringUTF16_inflate : GoodIn cx_tbl ws_JStringUTF16_inflate := cx_good cw_697
theorem cg_JStringUTF16_checkBoundsOffCount : GoodIn cx_tbl ws_JStringUTF16_checkBoundsOffCount := cx_good cw_700
theorem cg_JString_checkBoundsOffCount : GoodIn cx_tbl ws_JString_checkBoundsOffCount := cx_good cw_703
theorem cg_JPreconditions_checkFromIndexSize : GoodIn cx_tbl ws_JPreconditions_checkFromIndexSize := cx_good cw_706
theorem cg_JStringUTF16_putCharSB : GoodIn cx_tbl ws_JStringUTF16_putCharSB := cx_good cw_709
theorem cg_Sb_length : GoodIn cx_tbl ws_Sb_length := cx_good cw_713
theorem cg_Asb_length : GoodIn cx_tbl ws_Asb_length := cx_good cw_716
theorem cg_Sb_charAt : GoodIn cx_tbl ws_Sb_charAt := cx_good cw_720
theorem cg_Asb_charAt : GoodIn cx_tbl ws_Asb_charAt := cx_good cw_723
theorem cg_Md_init : GoodIn cx_tbl ws_Md_init := cx_good cw_731
theorem cg_Md_cell : GoodIn cx_tbl ws_Md_cell := cx_good cw_831
theorem cg_Md_span : GoodIn cx_tbl ws_Md_span := cx_good cw_835
theorem cg_Md_isIn : GoodIn cx_tbl ws_Md_isIn := cx_good cw_839
theorem cg_Md_warm : GoodIn cx_tbl ws_Md_warm := cx_good cw_843
theorem cg_Md_isCell : GoodIn cx_tbl ws_Md_isCell := cx_good cw_847
theorem cg_Md_isInSpan : GoodIn cx_tbl ws_Md_isInSpan := cx_good cw_851
theorem cg_Md_step : GoodIn cx_tbl ws_Md_step := cx_good cw_855
theorem cg_Md_rest : GoodIn cx_tbl ws_Md_rest := cx_good cw_862
theorem cg_Md_charge : GoodIn cx_tbl ws_Md_charge := cx_good cw_866
theorem cg_Md_resistance : GoodIn cx_tbl ws_Md_resistance := cx_good cw_872
theorem cg_Md_turnOf : GoodIn cx_tbl ws_Md_turnOf := cx_good cw_876
theorem cg_Md_size : GoodIn cx_tbl ws_Md_size := cx_good cw_879
theorem cg_Md_partOf : GoodIn cx_tbl ws_Md_partOf := cx_good cw_882
theorem cg_Md_common : GoodIn cx_tbl ws_Md_common := cx_good cw_885
theorem cg_Md_loss : GoodIn cx_tbl ws_Md_loss := cx_good cw_889
theorem cg_Md_uns : GoodIn cx_tbl ws_Md_uns := cx_good cw_893
theorem cg_Md_lastRest : GoodIn cx_tbl ws_Md_lastRest := cx_good cw_897
theorem cg_Md_unit : GoodIn cx_tbl ws_Md_unit := cx_good cw_901
theorem cg_Md_rules : GoodIn cx_tbl ws_Md_rules := cx_good cw_906
theorem cg_Md_next : GoodIn cx_tbl ws_Md_next := cx_good cw_910
theorem cg_Md_isBlank : GoodIn cx_tbl ws_Md_isBlank := cx_good cw_913
theorem cg_Md_numberAt : GoodIn cx_tbl ws_Md_numberAt := cx_good cw_917
theorem cg_Md_isClass : GoodIn cx_tbl ws_Md_isClass := cx_good cw_923
theorem cg_Md_isLetter : GoodIn cx_tbl ws_Md_isLetter := cx_good cw_927
theorem cg_Md_take : GoodIn cx_tbl ws_Md_take := cx_good cw_931
theorem cg_Md_cls : GoodIn cx_tbl ws_Md_cls := cx_good cw_935
theorem cg_Md_isOpen : GoodIn cx_tbl ws_Md_isOpen := cx_good cw_939
theorem cg_Md_holds : GoodIn cx_tbl ws_Md_holds := cx_good cw_943
theorem cg_Md_may : GoodIn cx_tbl ws_Md_may := cx_good cw_949
theorem cg_Md_pack : GoodIn cx_tbl ws_Md_pack := cx_good cw_955
theorem cg_Md_isWhole : GoodIn cx_tbl ws_Md_isWhole := cx_good cw_960
theorem cg_Md_mayBe : GoodIn cx_tbl ws_Md_mayBe := cx_good cw_964
theorem cg_Md_spread : GoodIn cx_tbl ws_Md_spread := cx_good cw_968
theorem cg_Md_turn : GoodIn cx_tbl ws_Md_turn := cx_good cw_972
theorem cg_Md_packOf : GoodIn cx_tbl ws_Md_packOf := cx_good cw_976
theorem cg_Md_row : GoodIn cx_tbl ws_Md_row := cx_good cw_980
theorem cg_Md_fade : GoodIn cx_tbl ws_Md_fade := cx_good cw_985
theorem cg_Md_record : GoodIn cx_tbl ws_Md_record := cx_good cw_989
theorem cg_Md_putNumber : GoodIn cx_tbl ws_Md_putNumber := cx_good cw_993
theorem cg_Md_put : GoodIn cx_tbl ws_Md_put := cx_good cw_997
theorem in_Cell : ∀ w ∈ u_ws R_Cell T_Cell 12, w ∈ cx_tbl := by
  intro w hw
  obtain ⟨k, hk, rfl⟩ := List.mem_map.mp hw
  have hk := List.mem_range.mp hk
  match k, hk with
  | 0, _ => exact cw_229
  | 1, _ => exact cw_231
  | 2, _ => exact cw_233
  | 3, _ => exact cw_235
  | 4, _ => exact cw_237
  | 5, _ => exact cw_239
  | 6, _ => exact cw_241
  | 7, _ => exact cw_243
  | 8, _ => exact cw_245
  | 9, _ => exact cw_247
  | 10, _ => exact cw_249
  | 11, _ => exact cw_251
  | k + 12, hk => exact absurd hk (by omega)
theorem in_Fade : ∀ w ∈ u_ws R_Fade T_Fade 3, w ∈ cx_tbl := by
  intro w hw
  obtain ⟨k, hk, rfl⟩ := List.mem_map.mp hw
  have hk := List.mem_range.mp hk
  match k, hk with
  | 0, _ => exact cw_133
  | 1, _ => exact cw_135
  | 2, _ => exact cw_137
  | k + 3, hk => exact absurd hk (by omega)
theorem in_Pack : ∀ w ∈ u_ws R_Pack T_Pack 11, w ∈ cx_tbl := by
  intro w hw
  obtain ⟨k, hk, rfl⟩ := List.mem_map.mp hw
  have hk := List.mem_range.mp hk
  match k, hk with
  | 0, _ => exact cw_100
  | 1, _ => exact cw_102
  | 2, _ => exact cw_104
  | 3, _ => exact cw_106
  | 4, _ => exact cw_108
  | 5, _ => exact cw_110
  | 6, _ => exact cw_112
  | 7, _ => exact cw_114
  | 8, _ => exact cw_116
  | 9, _ => exact cw_118
  | 10, _ => exact cw_120
  | k + 11, hk => exact absurd hk (by omega)
theorem in_Set : ∀ w ∈ u_ws R_Set T_Set 7, w ∈ cx_tbl := by
  intro w hw
  obtain ⟨k, hk, rfl⟩ := List.mem_map.mp hw
  have hk := List.mem_range.mp hk
  match k, hk with
  | 0, _ => exact cw_67
  | 1, _ => exact cw_69
  | 2, _ => exact cw_71
  | 3, _ => exact cw_73
  | 4, _ => exact cw_75
  | 5, _ => exact cw_77
  | 6, _ => exact cw_79
  | k + 7, hk => exact absurd hk (by omega)
theorem in_Text : ∀ w ∈ u_ws R_Text T_Text 5, w ∈ cx_tbl := by
  intro w hw
  obtain ⟨k, hk, rfl⟩ := List.mem_map.mp hw
  have hk := List.mem_range.mp hk
  match k, hk with
  | 0, _ => exact cw_41
  | 1, _ => exact cw_43
  | 2, _ => exact cw_45
  | 3, _ => exact cw_47
  | 4, _ => exact cw_49
  | k + 5, hk => exact absurd hk (by omega)
theorem in_Ct : ∀ w ∈ u_ws R_Ct T_Ct 10, w ∈ cx_tbl := by
  intro w hw
  obtain ⟨k, hk, rfl⟩ := List.mem_map.mp hw
  have hk := List.mem_range.mp hk
  match k, hk with
  | 0, _ => exact cw_182
  | 1, _ => exact cw_184
  | 2, _ => exact cw_186
  | 3, _ => exact cw_188
  | 4, _ => exact cw_190
  | 5, _ => exact cw_192
  | 6, _ => exact cw_194
  | 7, _ => exact cw_196
  | 8, _ => exact cw_198
  | 9, _ => exact cw_200
  | k + 10, hk => exact absurd hk (by omega)
theorem in_Md : ∀ w ∈ u_ws R_Md T_Md 31, w ∈ cx_tbl := by
  intro w hw
  obtain ⟨k, hk, rfl⟩ := List.mem_map.mp hw
  have hk := List.mem_range.mp hk
  match k, hk with
  | 0, _ => exact cw_765
  | 1, _ => exact cw_767
  | 2, _ => exact cw_769
  | 3, _ => exact cw_771
  | 4, _ => exact cw_773
  | 5, _ => exact cw_775
  | 6, _ => exact cw_777
  | 7, _ => exact cw_779
  | 8, _ => exact cw_781
  | 9, _ => exact cw_783
  | 10, _ => exact cw_785
  | 11, _ => exact cw_787
  | 12, _ => exact cw_789
  | 13, _ => exact cw_791
  | 14, _ => exact cw_793
  | 15, _ => exact cw_795
  | 16, _ => exact cw_797
  | 17, _ => exact cw_799
  | 18, _ => exact cw_801
  | 19, _ => exact cw_803
  | 20, _ => exact cw_805
  | 21, _ => exact cw_807
  | 22, _ => exact cw_809
  | 23, _ => exact cw_811
  | 24, _ => exact cw_813
  | 25, _ => exact cw_815
  | 26, _ => exact cw_817
  | 27, _ => exact cw_819
  | 28, _ => exact cw_821
  | 29, _ => exact cw_823
  | 30, _ => exact cw_825
  | k + 31, hk => exact absurd hk (by omega)
theorem in_Sb : ∀ w ∈ u_ws R_Sb T_Sb 4, w ∈ cx_tbl := by
  intro w hw
  obtain ⟨k, hk, rfl⟩ := List.mem_map.mp hw
  have hk := List.mem_range.mp hk
  match k, hk with
  | 0, _ => exact cw_162
  | 1, _ => exact cw_164
  | 2, _ => exact cw_166
  | 3, _ => exact cw_168
  | k + 4, hk => exact absurd hk (by omega)
