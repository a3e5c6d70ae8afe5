/-- the words that every method may take along -/
def qTb : List Cond := lw_tbl.filter goodWord
/-- the links to private members of nest mates -/
def qNs : List Cond := [(Jvm.Cond.methodLinkNest "GradeRows" (9 : Nat) ({ cls := "GradeRows$Rules", name := "<init>", desc := "()V" } : Jvm.MethodName) "GradeRows"), (Jvm.Cond.methodLinkNest "GradeRows" (18 : Nat) ({ cls := "GradeRows$Steps", name := "<init>", desc := "()V" } : Jvm.MethodName) "GradeRows"), (Jvm.Cond.methodLinkNest "GradeRows" (25 : Nat) ({ cls := "GradeRows$Classes", name := "<init>", desc := "()V" } : Jvm.MethodName) "GradeRows"), (Jvm.Cond.castable "[I" "java/lang/Cloneable"), (Jvm.Cond.fieldLinkNest "GradeRows$Steps" (96 : Nat) "GradeRows$Row" "total" "J" "GradeRows"), (Jvm.Cond.fieldLinkNest "GradeRows$Steps" (103 : Nat) "GradeRows$Row" "prices" "LGradeRows$Sorted;" "GradeRows"), (Jvm.Cond.fieldLinkNest "GradeRows$Steps" (112 : Nat) "GradeRows$Row" "codes" "LGradeRows$Sorted;" "GradeRows"), (Jvm.Cond.methodLinkNest "GradeRows$Steps" (99 : Nat) ({ cls := "GradeRows", name := "order", desc := "(JJ)I" } : Jvm.MethodName) "GradeRows"), (Jvm.Cond.methodLinkNest "GradeRows$Sorted" (32 : Nat) ({ cls := "GradeRows", name := "order", desc := "(JJ)I" } : Jvm.MethodName) "GradeRows")]
def qNw (U : State) : Prop := (∀ w ∈ qNs, va_Nw w U) ∧ va_AO "GradeRows$Row" U
def TX0 : u_T := fun k => match k with
  | 0 => ("GradeRows$Classes", "lows", "[J", true)
  | 1 => ("GradeRows$Classes", "highs", "[J", true)
  | _ => ("GradeRows$Classes", "count", "I", false)
def tyX0 : Nat → FieldType := fun k => match k with
  | 0 => .array .long
  | 1 => .array .long
  | _ => .int
theorem nmX0 : ∀ a, a < 3 → ∀ b, b < 3 → a ≠ b → (TX0 a).2.1 ≠ (TX0 b).2.1 := by decide +kernel
theorem tyX0_ok : ∀ k, k < 3 → parseFieldDescriptor (TX0 k).2.2.1 = some (tyX0 k) := by decide +kernel
theorem inX0 : ∀ w ∈ u_ws "GradeRows$Classes" TX0 3, w ∈ qTb := by decide +kernel
def TX1 : u_T := fun k => match k with
  | 0 => ("GradeRows$Row", "total", "J", true)
  | 1 => ("GradeRows$Row", "prices", "LGradeRows$Sorted;", true)
  | _ => ("GradeRows$Row", "codes", "LGradeRows$Sorted;", true)
def tyX1 : Nat → FieldType := fun k => match k with
  | 0 => .long
  | 1 => .object "GradeRows$Sorted"
  | _ => .object "GradeRows$Sorted"
theorem nmX1 : ∀ a, a < 3 → ∀ b, b < 3 → a ≠ b → (TX1 a).2.1 ≠ (TX1 b).2.1 := by decide +kernel
theorem tyX1_ok : ∀ k, k < 3 → parseFieldDescriptor (TX1 k).2.2.1 = some (tyX1 k) := by decide +kernel
theorem inX1 : ∀ w ∈ u_ws "GradeRows$Row" TX1 3, w ∈ qTb := by decide +kernel
def TX2 : u_T := fun k => match k with
  | 0 => ("GradeRows$Rules", "weights", "[I", true)
  | 1 => ("GradeRows$Rules", "extras", "[I", true)
  | 2 => ("GradeRows$Rules", "uses", "[I", true)
  | 3 => ("GradeRows$Rules", "spent", "[J", true)
  | _ => ("GradeRows$Rules", "count", "I", false)
def tyX2 : Nat → FieldType := fun k => match k with
  | 0 => .array .int
  | 1 => .array .int
  | 2 => .array .int
  | 3 => .array .long
  | _ => .int
theorem nmX2 : ∀ a, a < 5 → ∀ b, b < 5 → a ≠ b → (TX2 a).2.1 ≠ (TX2 b).2.1 := by decide +kernel
theorem tyX2_ok : ∀ k, k < 5 → parseFieldDescriptor (TX2 k).2.2.1 = some (tyX2 k) := by decide +kernel
theorem inX2 : ∀ w ∈ u_ws "GradeRows$Rules" TX2 5, w ∈ qTb := by decide +kernel
def TX3 : u_T := fun k => match k with
  | 0 => ("GradeRows$Sorted", "items", "[I", true)
  | _ => ("GradeRows$Sorted", "size", "I", false)
def tyX3 : Nat → FieldType := fun k => match k with
  | 0 => .array .int
  | _ => .int
theorem nmX3 : ∀ a, a < 2 → ∀ b, b < 2 → a ≠ b → (TX3 a).2.1 ≠ (TX3 b).2.1 := by decide +kernel
theorem tyX3_ok : ∀ k, k < 2 → parseFieldDescriptor (TX3 k).2.2.1 = some (tyX3 k) := by decide +kernel
theorem inX3 : ∀ w ∈ u_ws "GradeRows$Sorted" TX3 2, w ∈ qTb := by decide +kernel
def TX4 : u_T := fun k => match k with
  | 0 => ("GradeRows$Steps", "ruleOf", "[I", true)
  | 1 => ("GradeRows$Steps", "placeOf", "[I", true)
  | 2 => ("GradeRows$Steps", "widthOf", "[I", true)
  | 3 => ("GradeRows$Steps", "priceOf", "[I", true)
  | 4 => ("GradeRows$Steps", "isFirstNarrow", "[Z", true)
  | 5 => ("GradeRows$Steps", "totals", "[J", true)
  | 6 => ("GradeRows$Steps", "prices", "LGradeRows$Sorted;", true)
  | 7 => ("GradeRows$Steps", "codes", "LGradeRows$Sorted;", true)
  | _ => ("GradeRows$Steps", "count", "I", false)
def tyX4 : Nat → FieldType := fun k => match k with
  | 0 => .array .int
  | 1 => .array .int
  | 2 => .array .int
  | 3 => .array .int
  | 4 => .array .boolean
  | 5 => .array .long
  | 6 => .object "GradeRows$Sorted"
  | 7 => .object "GradeRows$Sorted"
  | _ => .int
theorem nmX4 : ∀ a, a < 9 → ∀ b, b < 9 → a ≠ b → (TX4 a).2.1 ≠ (TX4 b).2.1 := by decide +kernel
theorem tyX4_ok : ∀ k, k < 9 → parseFieldDescriptor (TX4 k).2.2.1 = some (tyX4 k) := by decide +kernel
theorem inX4 : ∀ w ∈ u_ws "GradeRows$Steps" TX4 9, w ∈ qTb := by decide +kernel
def TX5 : u_T := fun k => match k with
  | 0 => ("GradeRows", "rules", "LGradeRows$Rules;", true)
  | 1 => ("GradeRows", "steps", "LGradeRows$Steps;", true)
  | 2 => ("GradeRows", "classes", "LGradeRows$Classes;", true)
  | 3 => ("GradeRows", "kept", "[LGradeRows$Row;", true)
  | 4 => ("GradeRows", "keptCount", "I", false)
  | _ => ("GradeRows", "cursor", "I", false)
def tyX5 : Nat → FieldType := fun k => match k with
  | 0 => .object "GradeRows$Rules"
  | 1 => .object "GradeRows$Steps"
  | 2 => .object "GradeRows$Classes"
  | 3 => .array (.object "GradeRows$Row")
  | 4 => .int
  | _ => .int
theorem nmX5 : ∀ a, a < 6 → ∀ b, b < 6 → a ≠ b → (TX5 a).2.1 ≠ (TX5 b).2.1 := by decide +kernel
theorem tyX5_ok : ∀ k, k < 6 → parseFieldDescriptor (TX5 k).2.2.1 = some (tyX5 k) := by decide +kernel
theorem inX5 : ∀ w ∈ u_ws "GradeRows" TX5 6, w ∈ qTb := by decide +kernel
def TX6 : u_T := fun k => match k with
  | 0 => ("GradeRowsModel", "thrown", "I", false)
  | 1 => ("GradeRowsModel", "rules", "I", false)
  | 2 => ("GradeRowsModel", "weights", "[I", true)
  | 3 => ("GradeRowsModel", "extras", "[I", true)
  | 4 => ("GradeRowsModel", "sizes", "[I", true)
  | 5 => ("GradeRowsModel", "byRule", "[I", true)
  | 6 => ("GradeRowsModel", "where", "[I", true)
  | 7 => ("GradeRowsModel", "widths", "[I", true)
  | 8 => ("GradeRowsModel", "kept", "I", false)
  | 9 => ("GradeRowsModel", "classes", "I", false)
  | 10 => ("GradeRowsModel", "lows", "[J", true)
  | 11 => ("GradeRowsModel", "highs", "[J", true)
  | 12 => ("GradeRowsModel", "cursor", "I", false)
  | 13 => ("GradeRowsModel", "seen", "[Z", true)
  | 14 => ("GradeRowsModel", "mine", "[J", true)
  | _ => ("GradeRowsModel", "theirs", "[J", true)
def tyX6 : Nat → FieldType := fun k => match k with
  | 0 => .int
  | 1 => .int
  | 2 => .array .int
  | 3 => .array .int
  | 4 => .array .int
  | 5 => .array .int
  | 6 => .array .int
  | 7 => .array .int
  | 8 => .int
  | 9 => .int
  | 10 => .array .long
  | 11 => .array .long
  | 12 => .int
  | 13 => .array .boolean
  | 14 => .array .long
  | _ => .array .long
theorem nmX6 : ∀ a, a < 16 → ∀ b, b < 16 → a ≠ b → (TX6 a).2.1 ≠ (TX6 b).2.1 := by decide +kernel
theorem tyX6_ok : ∀ k, k < 16 → parseFieldDescriptor (TX6 k).2.2.1 = some (tyX6 k) := by decide +kernel
theorem inX6 : ∀ w ∈ u_ws "GradeRowsModel" TX6 16, w ∈ qTb := by decide +kernel
/-- the classes whose objects the worlds hold -/
abbrev vwCl : List vw_C := [("GradeRows$Classes", TX0, 3), ("GradeRows$Row", TX1, 3), ("GradeRows$Rules", TX2, 5), ("GradeRows$Sorted", TX3, 2), ("GradeRows$Steps", TX4, 9), ("GradeRows", TX5, 6), ("GradeRowsModel", TX6, 16)]
theorem qW_all {w : Cond} (h : w ∈ qTb) : goodWord w = true := (List.mem_filter.mp h).2
theorem qW_good {c : Cond} (h : c ∈ qTb) : GoodIn qTb (c :: qTb) := fun w hw => by
  rcases List.mem_cons.mp hw with e | e
  · subst e; exact ⟨h, good_of_word (qW_all h)⟩
  · exact ⟨e, good_of_word (qW_all e)⟩
theorem qW_more {ws ms : List Cond} (h : GoodIn qTb ws) (hm : ∀ w ∈ ms, w ∈ qTb) : GoodIn qTb (ms ++ ws) := fun w hw => by
  rcases List.mem_append.mp hw with e | e
  · exact ⟨hm w e, good_of_word (qW_all (hm w e))⟩
  · exact h w e
theorem qW_V {own C : String} {idx : Nat} {y : MethodName} {c : Cond} (h1 : Cond.methodLink own idx y ∈ qTb) (h2 : Cond.instanceMethod y ∈ qTb) (h3 : Cond.selects C y y ∈ qTb) (h4 : Cond.initialized C ∈ qTb) (hc : c ∈ qTb) : GoodIn qTb (wsV own idx C y (c :: qTb)) :=
  qW_more (qW_good hc) (fun w hw => by
    simp only [List.mem_cons, List.not_mem_nil, or_false] at hw
    rcases hw with rfl | rfl | rfl | rfl
    · exact h1
    · exact h2
    · exact h3
    · exact h4)
theorem qW_S {own : String} {idx : Nat} {y : MethodName} {c : Cond} (h1 : Cond.methodLink own idx y ∈ qTb) (h2 : Cond.static y ∈ qTb) (h4 : Cond.initialized y.cls ∈ qTb) (hc : c ∈ qTb) : GoodIn qTb (va_wsS own idx y (c :: qTb)) :=
  qW_more (qW_good hc) (fun w hw => by
    simp only [List.mem_cons, List.not_mem_nil, or_false] at hw
    rcases hw with rfl | rfl | rfl
    · exact h1
    · exact h2
    · exact h4)
abbrev cX5_init : ByteArray := prog_1_method_1_code
def yX5_init : MethodName := ⟨"GradeRows", "<init>", "()V"⟩
abbrev wsX5_init : List Cond := .code yX5_init cX5_init 1 none :: qTb
abbrev cX2_init : ByteArray := prog_4_method_1_code
def yX2_init : MethodName := ⟨"GradeRows$Rules", "<init>", "()V"⟩
abbrev wsX2_init : List Cond := .code yX2_init cX2_init 1 none :: qTb
abbrev cX4_init : ByteArray := prog_6_method_1_code
def yX4_init : MethodName := ⟨"GradeRows$Steps", "<init>", "()V"⟩
abbrev wsX4_init : List Cond := .code yX4_init cX4_init 1 none :: qTb
abbrev cX3_init : ByteArray := prog_5_method_1_code
def yX3_init : MethodName := ⟨"GradeRows$Sorted", "<init>", "([II)V"⟩
abbrev wsX3_init : List Cond := .code yX3_init cX3_init 3 none :: qTb
abbrev cX0_init : ByteArray := prog_2_method_1_code
def yX0_init : MethodName := ⟨"GradeRows$Classes", "<init>", "()V"⟩
abbrev wsX0_init : List Cond := .code yX0_init cX0_init 1 none :: qTb
abbrev cX5_rule : ByteArray := prog_1_method_2_code
def yX5_rule : MethodName := ⟨"GradeRows", "rule", "(II)I"⟩
abbrev wsX5_rule : List Cond := .code yX5_rule cX5_rule 3 (some .int) :: qTb
abbrev cX5_isWithin : ByteArray := prog_1_method_23_code
def yX5_isWithin : MethodName := ⟨"GradeRows", "isWithin", "(III)Z"⟩
abbrev wsX5_isWithin : List Cond := .code yX5_isWithin cX5_isWithin 3 (some .boolean) :: qTb
abbrev cX2_add : ByteArray := prog_4_method_3_code
def yX2_add : MethodName := ⟨"GradeRows$Rules", "add", "(II)I"⟩
abbrev wsX2_add : List Cond := .code yX2_add cX2_add 3 (some .int) :: qTb
abbrev cX5_used : ByteArray := prog_1_method_3_code
def yX5_used : MethodName := ⟨"GradeRows", "used", "(III)I"⟩
abbrev wsX5_used : List Cond := .code yX5_used cX5_used 5 (some .int) :: qTb
abbrev cX2_has : ByteArray := prog_4_method_2_code
def yX2_has : MethodName := ⟨"GradeRows$Rules", "has", "(I)Z"⟩
abbrev wsX2_has : List Cond := .code yX2_has cX2_has 2 (some .boolean) :: qTb
abbrev cX4_isFull : ByteArray := prog_6_method_3_code
def yX4_isFull : MethodName := ⟨"GradeRows$Steps", "isFull", "()Z"⟩
abbrev wsX4_isFull : List Cond := .code yX4_isFull cX4_isFull 1 (some .boolean) :: qTb
abbrev cX2_priceOfNext : ByteArray := prog_4_method_4_code
def yX2_priceOfNext : MethodName := ⟨"GradeRows$Rules", "priceOfNext", "(II)I"⟩
abbrev wsX2_priceOfNext : List Cond := .code yX2_priceOfNext cX2_priceOfNext 4 (some .int) :: qTb
abbrev cX2_noteStep : ByteArray := prog_4_method_5_code
def yX2_noteStep : MethodName := ⟨"GradeRows$Rules", "noteStep", "(II)V"⟩
abbrev wsX2_noteStep : List Cond := .code yX2_noteStep cX2_noteStep 3 none :: qTb
abbrev cX4_add : ByteArray := prog_6_method_11_code
def yX4_add : MethodName := ⟨"GradeRows$Steps", "add", "(IIII)I"⟩
abbrev wsX4_add : List Cond := .code yX4_add cX4_add 5 (some .int) :: qTb
abbrev cX4_wasNarrowAt : ByteArray := prog_6_method_20_code
def yX4_wasNarrowAt : MethodName := ⟨"GradeRows$Steps", "wasNarrowAt", "(I)Z"⟩
abbrev wsX4_wasNarrowAt : List Cond := .code yX4_wasNarrowAt cX4_wasNarrowAt 3 (some .boolean) :: qTb
abbrev cX3_put : ByteArray := prog_5_method_4_code
def yX3_put : MethodName := ⟨"GradeRows$Sorted", "put", "(I)V"⟩
abbrev wsX3_put : List Cond := .code yX3_put cX3_put 3 none :: qTb
abbrev cX4_codeOf : ByteArray := prog_6_method_21_code
def yX4_codeOf : MethodName := ⟨"GradeRows$Steps", "codeOf", "(III)I"⟩
abbrev wsX4_codeOf : List Cond := .code yX4_codeOf cX4_codeOf 3 (some .int) :: qTb
abbrev cX5_guess : ByteArray := prog_1_method_4_code
def yX5_guess : MethodName := ⟨"GradeRows", "guess", "(I)I"⟩
abbrev wsX5_guess : List Cond := .code yX5_guess cX5_guess 2 (some .int) :: qTb
abbrev cX4_addGuess : ByteArray := prog_6_method_10_code
def yX4_addGuess : MethodName := ⟨"GradeRows$Steps", "addGuess", "(I)I"⟩
abbrev wsX4_addGuess : List Cond := .code yX4_addGuess cX4_addGuess 3 (some .int) :: qTb
abbrev cX4_isGuess : ByteArray := prog_6_method_5_code
def yX4_isGuess : MethodName := ⟨"GradeRows$Steps", "isGuess", "(I)Z"⟩
abbrev wsX4_isGuess : List Cond := .code yX4_isGuess cX4_isGuess 2 (some .boolean) :: qTb
abbrev cX4_has : ByteArray := prog_6_method_4_code
def yX4_has : MethodName := ⟨"GradeRows$Steps", "has", "(I)Z"⟩
abbrev wsX4_has : List Cond := .code yX4_has cX4_has 2 (some .boolean) :: qTb
abbrev cX5_drop : ByteArray := prog_1_method_5_code
def yX5_drop : MethodName := ⟨"GradeRows", "drop", "()Z"⟩
abbrev wsX5_drop : List Cond := .code yX5_drop cX5_drop 2 (some .boolean) :: qTb
abbrev cX4_count : ByteArray := prog_6_method_2_code
def yX4_count : MethodName := ⟨"GradeRows$Steps", "count", "()I"⟩
abbrev wsX4_count : List Cond := .code yX4_count cX4_count 1 (some .int) :: qTb
abbrev cX4_ruleAt : ByteArray := prog_6_method_6_code
def yX4_ruleAt : MethodName := ⟨"GradeRows$Steps", "ruleAt", "(I)I"⟩
abbrev wsX4_ruleAt : List Cond := .code yX4_ruleAt cX4_ruleAt 2 (some .int) :: qTb
abbrev cX4_priceAt : ByteArray := prog_6_method_9_code
def yX4_priceAt : MethodName := ⟨"GradeRows$Steps", "priceAt", "(I)I"⟩
abbrev wsX4_priceAt : List Cond := .code yX4_priceAt cX4_priceAt 2 (some .int) :: qTb
abbrev cX2_forgetStep : ByteArray := prog_4_method_6_code
def yX2_forgetStep : MethodName := ⟨"GradeRows$Rules", "forgetStep", "(II)V"⟩
abbrev wsX2_forgetStep : List Cond := .code yX2_forgetStep cX2_forgetStep 3 none :: qTb
abbrev cX4_removeLast : ByteArray := prog_6_method_12_code
def yX4_removeLast : MethodName := ⟨"GradeRows$Steps", "removeLast", "()V"⟩
abbrev wsX4_removeLast : List Cond := .code yX4_removeLast cX4_removeLast 1 none :: qTb
abbrev cX3_take : ByteArray := prog_5_method_5_code
def yX3_take : MethodName := ⟨"GradeRows$Sorted", "take", "(I)V"⟩
abbrev wsX3_take : List Cond := .code yX3_take cX3_take 4 none :: qTb
abbrev cX5_cost : ByteArray := prog_1_method_6_code
def yX5_cost : MethodName := ⟨"GradeRows", "cost", "(I)J"⟩
abbrev wsX5_cost : List Cond := .code yX5_cost cX5_cost 2 (some .long) :: qTb
abbrev cX5_sum : ByteArray := prog_1_method_7_code
def yX5_sum : MethodName := ⟨"GradeRows", "sum", "(I)J"⟩
abbrev wsX5_sum : List Cond := .code yX5_sum cX5_sum 2 (some .long) :: qTb
abbrev cX4_totalOfFirst : ByteArray := prog_6_method_14_code
def yX4_totalOfFirst : MethodName := ⟨"GradeRows$Steps", "totalOfFirst", "(I)J"⟩
abbrev wsX4_totalOfFirst : List Cond := .code yX4_totalOfFirst cX4_totalOfFirst 2 (some .long) :: qTb
abbrev cX4_total : ByteArray := prog_6_method_13_code
def yX4_total : MethodName := ⟨"GradeRows$Steps", "total", "()J"⟩
abbrev wsX4_total : List Cond := .code yX4_total cX4_total 1 (some .long) :: qTb
abbrev cX5_cls : ByteArray := prog_1_method_8_code
def yX5_cls : MethodName := ⟨"GradeRows", "cls", "(JJ)I"⟩
abbrev wsX5_cls : List Cond := .code yX5_cls cX5_cls 5 (some .int) :: qTb
abbrev cX0_add : ByteArray := prog_2_method_2_code
def yX0_add : MethodName := ⟨"GradeRows$Classes", "add", "(JJ)I"⟩
abbrev wsX0_add : List Cond := .code yX0_add cX0_add 5 (some .int) :: qTb
abbrev cX0_hasOneOf : ByteArray := prog_2_method_6_code
def yX0_hasOneOf : MethodName := ⟨"GradeRows$Classes", "hasOneOf", "(JJ)Z"⟩
abbrev wsX0_hasOneOf : List Cond := .code yX0_hasOneOf cX0_hasOneOf 6 (some .boolean) :: qTb
abbrev cX5_grade : ByteArray := prog_1_method_9_code
def yX5_grade : MethodName := ⟨"GradeRows", "grade", "()I"⟩
abbrev wsX5_grade : List Cond := .code yX5_grade cX5_grade 1 (some .int) :: qTb
abbrev cX0_classOf : ByteArray := prog_2_method_3_code
def yX0_classOf : MethodName := ⟨"GradeRows$Classes", "classOf", "(J)I"⟩
abbrev wsX0_classOf : List Cond := .code yX0_classOf cX0_classOf 4 (some .int) :: qTb
abbrev cX5_rank : ByteArray := prog_1_method_10_code
def yX5_rank : MethodName := ⟨"GradeRows", "rank", "()I"⟩
abbrev wsX5_rank : List Cond := .code yX5_rank cX5_rank 3 (some .int) :: qTb
abbrev cX0_countBelow : ByteArray := prog_2_method_4_code
def yX0_countBelow : MethodName := ⟨"GradeRows$Classes", "countBelow", "(J)I"⟩
abbrev wsX0_countBelow : List Cond := .code yX0_countBelow cX0_countBelow 5 (some .int) :: qTb
abbrev cX5_gap : ByteArray := prog_1_method_11_code
def yX5_gap : MethodName := ⟨"GradeRows", "gap", "(J)J"⟩
abbrev wsX5_gap : List Cond := .code yX5_gap cX5_gap 3 (some .long) :: qTb
abbrev cX0_firstFree : ByteArray := prog_2_method_5_code
def yX0_firstFree : MethodName := ⟨"GradeRows$Classes", "firstFree", "(J)J"⟩
abbrev wsX0_firstFree : List Cond := .code yX0_firstFree cX0_firstFree 7 (some .long) :: qTb
abbrev cX5_stuck : ByteArray := prog_1_method_12_code
def yX5_stuck : MethodName := ⟨"GradeRows", "stuck", "(I)I"⟩
abbrev wsX5_stuck : List Cond := .code yX5_stuck cX5_stuck 2 (some .int) :: qTb
abbrev cX4_narrowPlace : ByteArray := prog_6_method_15_code
def yX4_narrowPlace : MethodName := ⟨"GradeRows$Steps", "narrowPlace", "(I)I"⟩
abbrev wsX4_narrowPlace : List Cond := .code yX4_narrowPlace cX4_narrowPlace 4 (some .int) :: qTb
abbrev cX5_run : ByteArray := prog_1_method_13_code
def yX5_run : MethodName := ⟨"GradeRows", "run", "()I"⟩
abbrev wsX5_run : List Cond := .code yX5_run cX5_run 1 (some .int) :: qTb
abbrev cX4_longestClimb : ByteArray := prog_6_method_16_code
def yX4_longestClimb : MethodName := ⟨"GradeRows$Steps", "longestClimb", "()I"⟩
abbrev wsX4_longestClimb : List Cond := .code yX4_longestClimb cX4_longestClimb 4 (some .int) :: qTb
abbrev cX5_hardest : ByteArray := prog_1_method_14_code
def yX5_hardest : MethodName := ⟨"GradeRows", "hardest", "()I"⟩
abbrev wsX5_hardest : List Cond := .code yX5_hardest cX5_hardest 1 (some .int) :: qTb
abbrev cX2_dearest : ByteArray := prog_4_method_7_code
def yX2_dearest : MethodName := ⟨"GradeRows$Rules", "dearest", "()I"⟩
abbrev wsX2_dearest : List Cond := .code yX2_dearest cX2_dearest 5 (some .int) :: qTb
abbrev cX5_go : ByteArray := prog_1_method_15_code
def yX5_go : MethodName := ⟨"GradeRows", "go", "(I)Z"⟩
abbrev wsX5_go : List Cond := .code yX5_go cX5_go 2 (some .boolean) :: qTb
abbrev cX5_hint : ByteArray := prog_1_method_16_code
def yX5_hint : MethodName := ⟨"GradeRows", "hint", "(I)I"⟩
abbrev wsX5_hint : List Cond := .code yX5_hint cX5_hint 3 (some .int) :: qTb
abbrev cX5_hintOfGuess : ByteArray := prog_1_method_20_code
def yX5_hintOfGuess : MethodName := ⟨"GradeRows", "hintOfGuess", "(I)I"⟩
abbrev wsX5_hintOfGuess : List Cond := .code yX5_hintOfGuess cX5_hintOfGuess 2 (some .int) :: qTb
abbrev cX4_widthAt : ByteArray := prog_6_method_8_code
def yX4_widthAt : MethodName := ⟨"GradeRows$Steps", "widthAt", "(I)I"⟩
abbrev wsX4_widthAt : List Cond := .code yX4_widthAt cX4_widthAt 2 (some .int) :: qTb
abbrev cX5_hintOfRuleStep : ByteArray := prog_1_method_21_code
def yX5_hintOfRuleStep : MethodName := ⟨"GradeRows", "hintOfRuleStep", "(I)I"⟩
abbrev wsX5_hintOfRuleStep : List Cond := .code yX5_hintOfRuleStep cX5_hintOfRuleStep 2 (some .int) :: qTb
abbrev cX4_placeAt : ByteArray := prog_6_method_7_code
def yX4_placeAt : MethodName := ⟨"GradeRows$Steps", "placeAt", "(I)I"⟩
abbrev wsX4_placeAt : List Cond := .code yX4_placeAt cX4_placeAt 2 (some .int) :: qTb
abbrev cX5_keep : ByteArray := prog_1_method_17_code
def yX5_keep : MethodName := ⟨"GradeRows", "keep", "()I"⟩
abbrev wsX5_keep : List Cond := .code yX5_keep cX5_keep 1 (some .int) :: qTb
abbrev cX4_toRow : ByteArray := prog_6_method_17_code
def yX4_toRow : MethodName := ⟨"GradeRows$Steps", "toRow", "()LGradeRows$Row;"⟩
abbrev wsX4_toRow : List Cond := .code yX4_toRow cX4_toRow 1 (some (.object "GradeRows$Row")) :: qTb
abbrev cX3_copy : ByteArray := prog_5_method_3_code
def yX3_copy : MethodName := ⟨"GradeRows$Sorted", "copy", "()LGradeRows$Sorted;"⟩
abbrev wsX3_copy : List Cond := .code yX3_copy cX3_copy 1 (some (.object "GradeRows$Sorted")) :: qTb
abbrev cJ0_copyOf : ByteArray := prog_12_method_123_code
def yJ0_copyOf : MethodName := ⟨"java/util/Arrays", "copyOf", "([II)[I"⟩
abbrev wsJ0_copyOf : List Cond := .code yJ0_copyOf cJ0_copyOf 3 (some (.array .int)) :: qTb
abbrev cX1_init : ByteArray := prog_3_method_1_code
def yX1_init : MethodName := ⟨"GradeRows$Row", "<init>", "(JLGradeRows$Sorted;LGradeRows$Sorted;)V"⟩
abbrev wsX1_init : List Cond := .code yX1_init cX1_init 5 none :: qTb
abbrev cX5_compare : ByteArray := prog_1_method_18_code
def yX5_compare : MethodName := ⟨"GradeRows", "compare", "(I)I"⟩
abbrev wsX5_compare : List Cond := .code yX5_compare cX5_compare 3 (some .int) :: qTb
abbrev cX5_keptAt : ByteArray := prog_1_method_22_code
def yX5_keptAt : MethodName := ⟨"GradeRows", "keptAt", "(I)LGradeRows$Row;"⟩
abbrev wsX5_keptAt : List Cond := .code yX5_keptAt cX5_keptAt 2 (some (.object "GradeRows$Row")) :: qTb
abbrev cX4_orderAgainst : ByteArray := prog_6_method_18_code
def yX4_orderAgainst : MethodName := ⟨"GradeRows$Steps", "orderAgainst", "(LGradeRows$Row;)I"⟩
abbrev wsX4_orderAgainst : List Cond := .code yX4_orderAgainst cX4_orderAgainst 4 (some .int) :: qTb
abbrev cX5_order : ByteArray := prog_1_method_24_code
def yX5_order : MethodName := ⟨"GradeRows", "order", "(JJ)I"⟩
abbrev wsX5_order : List Cond := .code yX5_order cX5_order 4 (some .int) :: qTb
abbrev cX3_size : ByteArray := prog_5_method_2_code
def yX3_size : MethodName := ⟨"GradeRows$Sorted", "size", "()I"⟩
abbrev wsX3_size : List Cond := .code yX3_size cX3_size 1 (some .int) :: qTb
abbrev cX3_orderFromGreatest : ByteArray := prog_5_method_6_code
def yX3_orderFromGreatest : MethodName := ⟨"GradeRows$Sorted", "orderFromGreatest", "(LGradeRows$Sorted;)I"⟩
abbrev wsX3_orderFromGreatest : List Cond := .code yX3_orderFromGreatest cX3_orderFromGreatest 5 (some .int) :: qTb
abbrev cX5_same : ByteArray := prog_1_method_19_code
def yX5_same : MethodName := ⟨"GradeRows", "same", "(I)Z"⟩
abbrev wsX5_same : List Cond := .code yX5_same cX5_same 3 (some .boolean) :: qTb
abbrev cX4_hasStepsOf : ByteArray := prog_6_method_19_code
def yX4_hasStepsOf : MethodName := ⟨"GradeRows$Steps", "hasStepsOf", "(LGradeRows$Row;)Z"⟩
abbrev wsX4_hasStepsOf : List Cond := .code yX4_hasStepsOf cX4_hasStepsOf 2 (some .boolean) :: qTb
abbrev cX6_init : ByteArray := prog_8_method_1_code
def yX6_init : MethodName := ⟨"GradeRowsModel", "<init>", "()V"⟩
abbrev wsX6_init : List Cond := .code yX6_init cX6_init 1 none :: qTb
abbrev cX6_rule : ByteArray := prog_8_method_4_code
def yX6_rule : MethodName := ⟨"GradeRowsModel", "rule", "(II)I"⟩
abbrev wsX6_rule : List Cond := .code yX6_rule cX6_rule 3 (some .int) :: qTb
abbrev cX6_used : ByteArray := prog_8_method_6_code
def yX6_used : MethodName := ⟨"GradeRowsModel", "used", "(III)I"⟩
abbrev wsX6_used : List Cond := .code yX6_used cX6_used 4 (some .int) :: qTb
abbrev cX6_count : ByteArray := prog_8_method_3_code
def yX6_count : MethodName := ⟨"GradeRowsModel", "count", "()I"⟩
abbrev wsX6_count : List Cond := .code yX6_count cX6_count 1 (some .int) :: qTb
abbrev cX6_add : ByteArray := prog_8_method_5_code
def yX6_add : MethodName := ⟨"GradeRowsModel", "add", "(III)I"⟩
abbrev wsX6_add : List Cond := .code yX6_add cX6_add 5 (some .int) :: qTb
abbrev cX6_guess : ByteArray := prog_8_method_7_code
def yX6_guess : MethodName := ⟨"GradeRowsModel", "guess", "(I)I"⟩
abbrev wsX6_guess : List Cond := .code yX6_guess cX6_guess 2 (some .int) :: qTb
abbrev cX6_drop : ByteArray := prog_8_method_8_code
def yX6_drop : MethodName := ⟨"GradeRowsModel", "drop", "()Z"⟩
abbrev wsX6_drop : List Cond := .code yX6_drop cX6_drop 1 (some .boolean) :: qTb
abbrev cX6_cost : ByteArray := prog_8_method_12_code
def yX6_cost : MethodName := ⟨"GradeRowsModel", "cost", "(I)J"⟩
abbrev wsX6_cost : List Cond := .code yX6_cost cX6_cost 2 (some .long) :: qTb
abbrev cX6_costOf : ByteArray := prog_8_method_9_code
def yX6_costOf : MethodName := ⟨"GradeRowsModel", "costOf", "(II)J"⟩
abbrev wsX6_costOf : List Cond := .code yX6_costOf cX6_costOf 7 (some .long) :: qTb
abbrev cX6_sum : ByteArray := prog_8_method_13_code
def yX6_sum : MethodName := ⟨"GradeRowsModel", "sum", "(I)J"⟩
abbrev wsX6_sum : List Cond := .code yX6_sum cX6_sum 2 (some .long) :: qTb
abbrev cX6_sumOf : ByteArray := prog_8_method_10_code
def yX6_sumOf : MethodName := ⟨"GradeRowsModel", "sumOf", "(II)J"⟩
abbrev wsX6_sumOf : List Cond := .code yX6_sumOf cX6_sumOf 6 (some .long) :: qTb
abbrev cX6_cls : ByteArray := prog_8_method_14_code
def yX6_cls : MethodName := ⟨"GradeRowsModel", "cls", "(JJ)I"⟩
abbrev wsX6_cls : List Cond := .code yX6_cls cX6_cls 6 (some .int) :: qTb
abbrev cX6_grade : ByteArray := prog_8_method_16_code
def yX6_grade : MethodName := ⟨"GradeRowsModel", "grade", "()I"⟩
abbrev wsX6_grade : List Cond := .code yX6_grade cX6_grade 1 (some .int) :: qTb
abbrev cX6_all : ByteArray := prog_8_method_11_code
def yX6_all : MethodName := ⟨"GradeRowsModel", "all", "()J"⟩
abbrev wsX6_all : List Cond := .code yX6_all cX6_all 1 (some .long) :: qTb
abbrev cX6_classOf : ByteArray := prog_8_method_15_code
def yX6_classOf : MethodName := ⟨"GradeRowsModel", "classOf", "(J)I"⟩
abbrev wsX6_classOf : List Cond := .code yX6_classOf cX6_classOf 4 (some .int) :: qTb
abbrev cX6_rank : ByteArray := prog_8_method_17_code
def yX6_rank : MethodName := ⟨"GradeRowsModel", "rank", "()I"⟩
abbrev wsX6_rank : List Cond := .code yX6_rank cX6_rank 5 (some .int) :: qTb
abbrev cX6_gap : ByteArray := prog_8_method_18_code
def yX6_gap : MethodName := ⟨"GradeRowsModel", "gap", "(J)J"⟩
abbrev wsX6_gap : List Cond := .code yX6_gap cX6_gap 5 (some .long) :: qTb
abbrev cX6_stuck : ByteArray := prog_8_method_19_code
def yX6_stuck : MethodName := ⟨"GradeRowsModel", "stuck", "(I)I"⟩
abbrev wsX6_stuck : List Cond := .code yX6_stuck cX6_stuck 5 (some .int) :: qTb
abbrev cX6_run : ByteArray := prog_8_method_20_code
def yX6_run : MethodName := ⟨"GradeRowsModel", "run", "()I"⟩
abbrev wsX6_run : List Cond := .code yX6_run cX6_run 4 (some .int) :: qTb
abbrev cX6_hardest : ByteArray := prog_8_method_21_code
def yX6_hardest : MethodName := ⟨"GradeRowsModel", "hardest", "()I"⟩
abbrev wsX6_hardest : List Cond := .code yX6_hardest cX6_hardest 8 (some .int) :: qTb
abbrev cX6_go : ByteArray := prog_8_method_22_code
def yX6_go : MethodName := ⟨"GradeRowsModel", "go", "(I)Z"⟩
abbrev wsX6_go : List Cond := .code yX6_go cX6_go 2 (some .boolean) :: qTb
abbrev cX6_hint : ByteArray := prog_8_method_23_code
def yX6_hint : MethodName := ⟨"GradeRowsModel", "hint", "(I)I"⟩
abbrev wsX6_hint : List Cond := .code yX6_hint cX6_hint 3 (some .int) :: qTb
abbrev cX6_keep : ByteArray := prog_8_method_24_code
def yX6_keep : MethodName := ⟨"GradeRowsModel", "keep", "()I"⟩
abbrev wsX6_keep : List Cond := .code yX6_keep cX6_keep 2 (some .int) :: qTb
abbrev cX6_compare : ByteArray := prog_8_method_26_code
def yX6_compare : MethodName := ⟨"GradeRowsModel", "compare", "(I)I"⟩
abbrev wsX6_compare : List Cond := .code yX6_compare cX6_compare 10 (some .int) :: qTb
abbrev cX6_way : ByteArray := prog_8_method_25_code
def yX6_way : MethodName := ⟨"GradeRowsModel", "way", "(JJ)I"⟩
abbrev wsX6_way : List Cond := .code yX6_way cX6_way 4 (some .int) :: qTb
abbrev cX6_same : ByteArray := prog_8_method_28_code
def yX6_same : MethodName := ⟨"GradeRowsModel", "same", "(I)Z"⟩
abbrev wsX6_same : List Cond := .code yX6_same cX6_same 3 (some .boolean) :: qTb
abbrev cX6_like : ByteArray := prog_8_method_27_code
def yX6_like : MethodName := ⟨"GradeRowsModel", "like", "(II)I"⟩
abbrev wsX6_like : List Cond := .code yX6_like cX6_like 6 (some .int) :: qTb
