def RX0 : String := "FloatSolver$ClaimStack"
def RX1 : String := "FloatSolver$Numbers"
def RX2 : String := "FloatSolver$Shapes"
def RX3 : String := "FloatSolver$TermTable"
def RX4 : String := "FloatSolver"
def RX5 : String := "FloatSolverModel"
def RL : String := "FloatSolverLaw"
def TX0 : u_T := fun k => match k with
  | 0 => ("FloatSolver$ClaimStack", "claimed", "[I", true)
  | 1 => ("FloatSolver$ClaimStack", "starts", "[I", true)
  | 2 => ("FloatSolver$ClaimStack", "size", "I", false)
  | _ => ("FloatSolver$ClaimStack", "highest", "I", false)
def tyX0 : Nat → FieldType := fun k => match k with
  | 0 => .array .int
  | 1 => .array .int
  | 2 => .int
  | _ => .int
theorem nmX0 : ∀ a, a < 4 → ∀ b, b < 4 → a ≠ b → (TX0 a).2.1 ≠ (TX0 b).2.1 := by decide +kernel
theorem tyX0_ok : ∀ k, k < 4 → parseFieldDescriptor (TX0 k).2.2.1 = some (tyX0 k) := by decide +kernel
def TX3 : u_T := fun k => match k with
  | 0 => ("FloatSolver$TermTable", "kinds", "[I", true)
  | 1 => ("FloatSolver$TermTable", "firsts", "[I", true)
  | 2 => ("FloatSolver$TermTable", "seconds", "[I", true)
  | 3 => ("FloatSolver$TermTable", "thirds", "[I", true)
  | 4 => ("FloatSolver$TermTable", "parts", "[I", true)
  | 5 => ("FloatSolver$TermTable", "varying", "[I", true)
  | 6 => ("FloatSolver$TermTable", "answers", "[I", true)
  | _ => ("FloatSolver$TermTable", "size", "I", false)
def tyX3 : Nat → FieldType := fun k => match k with
  | 0 => .array .int
  | 1 => .array .int
  | 2 => .array .int
  | 3 => .array .int
  | 4 => .array .int
  | 5 => .array .int
  | 6 => .array .int
  | _ => .int
theorem nmX3 : ∀ a, a < 8 → ∀ b, b < 8 → a ≠ b → (TX3 a).2.1 ≠ (TX3 b).2.1 := by decide +kernel
theorem tyX3_ok : ∀ k, k < 8 → parseFieldDescriptor (TX3 k).2.2.1 = some (tyX3 k) := by decide +kernel
def TX4 : u_T := fun k => match k with
  | 0 => ("FloatSolver", "table", "LFloatSolver$TermTable;", true)
  | 1 => ("FloatSolver", "stack", "LFloatSolver$ClaimStack;", true)
  | 2 => ("FloatSolver", "found", "[I", true)
  | 3 => ("FloatSolver", "modelStands", "Z", false)
  | _ => ("FloatSolver", "checkCount", "I", false)
def tyX4 : Nat → FieldType := fun k => match k with
  | 0 => .object "FloatSolver$TermTable"
  | 1 => .object "FloatSolver$ClaimStack"
  | 2 => .array .int
  | 3 => .boolean
  | _ => .int
theorem nmX4 : ∀ a, a < 5 → ∀ b, b < 5 → a ≠ b → (TX4 a).2.1 ≠ (TX4 b).2.1 := by decide +kernel
theorem tyX4_ok : ∀ k, k < 5 → parseFieldDescriptor (TX4 k).2.2.1 = some (tyX4 k) := by decide +kernel
def TX5 : u_T := fun k => match k with
  | 0 => ("FloatSolverModel", "thrown", "I", false)
  | 1 => ("FloatSolverModel", "terms", "I", false)
  | 2 => ("FloatSolverModel", "kindOf", "[I", true)
  | 3 => ("FloatSolverModel", "first", "[I", true)
  | 4 => ("FloatSolverModel", "second", "[I", true)
  | 5 => ("FloatSolverModel", "third", "[I", true)
  | 6 => ("FloatSolverModel", "claims", "I", false)
  | 7 => ("FloatSolverModel", "claimed", "[I", true)
  | 8 => ("FloatSolverModel", "level", "I", false)
  | 9 => ("FloatSolverModel", "under", "[I", true)
  | 10 => ("FloatSolverModel", "checks", "I", false)
  | 11 => ("FloatSolverModel", "found", "Z", false)
  | 12 => ("FloatSolverModel", "numbers", "[I", true)
  | _ => ("FloatSolverModel", "worth", "[I", true)
def tyX5 : Nat → FieldType := fun k => match k with
  | 0 => .int
  | 1 => .int
  | 2 => .array .int
  | 3 => .array .int
  | 4 => .array .int
  | 5 => .array .int
  | 6 => .int
  | 7 => .array .int
  | 8 => .int
  | 9 => .array .int
  | 10 => .int
  | 11 => .boolean
  | 12 => .array .int
  | _ => .array .int
theorem nmX5 : ∀ a, a < 14 → ∀ b, b < 14 → a ≠ b → (TX5 a).2.1 ≠ (TX5 b).2.1 := by decide +kernel
theorem tyX5_ok : ∀ k, k < 14 → parseFieldDescriptor (TX5 k).2.2.1 = some (tyX5 k) := by decide +kernel
abbrev vwCl : List vw_C := [(RX0, TX0, 4), (RX3, TX3, 8), (RX4, TX4, 5), (RX5, TX5, 14)]
abbrev cX4_init : ByteArray := prog_1_method_1_code
def yX4_init : MethodName := ⟨RX4, "<init>", "()V"⟩
abbrev cX3_init : ByteArray := prog_5_method_1_code
def yX3_init : MethodName := ⟨RX3, "<init>", "()V"⟩
abbrev cX0_init : ByteArray := prog_2_method_1_code
def yX0_init : MethodName := ⟨RX0, "<init>", "()V"⟩
abbrev cX4_check : ByteArray := prog_1_method_6_code
def yX4_check : MethodName := ⟨RX4, "check", "()Z"⟩
abbrev cX4_search : ByteArray := prog_1_method_14_code
def yX4_search : MethodName := ⟨RX4, "search", "()Z"⟩
abbrev cX0_claimedTerms : ByteArray := prog_2_method_8_code
def yX0_claimedTerms : MethodName := ⟨RX0, "claimedTerms", "()I"⟩
abbrev cX3_partsOf : ByteArray := prog_5_method_14_code
def yX3_partsOf : MethodName := ⟨RX3, "partsOf", "(I)I"⟩
abbrev cX3_varyingWith : ByteArray := prog_5_method_13_code
def yX3_varyingWith : MethodName := ⟨RX3, "varyingWith", "(I)I"⟩
abbrev cX3_allHold : ByteArray := prog_5_method_15_code
def yX3_allHold : MethodName := ⟨RX3, "allHold", "(IIII)Z"⟩
abbrev cX3_workOut : ByteArray := prog_5_method_17_code
def yX3_workOut : MethodName := ⟨RX3, "workOut", "(III)I"⟩
abbrev cX1_operate : ByteArray := prog_3_method_4_code
def yX1_operate : MethodName := ⟨RX1, "operate", "(III)I"⟩
abbrev cX1_negate : ByteArray := prog_3_method_10_code
def yX1_negate : MethodName := ⟨RX1, "negate", "(I)I"⟩
abbrev cX1_add : ByteArray := prog_3_method_11_code
def yX1_add : MethodName := ⟨RX1, "add", "(II)I"⟩
abbrev cX1_isNan : ByteArray := prog_3_method_5_code
def yX1_isNan : MethodName := ⟨RX1, "isNan", "(I)Z"⟩
abbrev cX1_isInfinite : ByteArray := prog_3_method_6_code
def yX1_isInfinite : MethodName := ⟨RX1, "isInfinite", "(I)Z"⟩
abbrev cX1_signedQuarters : ByteArray := prog_3_method_13_code
def yX1_signedQuarters : MethodName := ⟨RX1, "signedQuarters", "(I)I"⟩
abbrev cX1_rounded : ByteArray := prog_3_method_14_code
def yX1_rounded : MethodName := ⟨RX1, "rounded", "(I)I"⟩
abbrev cX1_multiply : ByteArray := prog_3_method_12_code
def yX1_multiply : MethodName := ⟨RX1, "multiply", "(II)I"⟩
abbrev cX1_isZero : ByteArray := prog_3_method_7_code
def yX1_isZero : MethodName := ⟨RX1, "isZero", "(I)Z"⟩
abbrev cX1_isLess : ByteArray := prog_3_method_9_code
def yX1_isLess : MethodName := ⟨RX1, "isLess", "(II)Z"⟩
abbrev cX1_isEqual : ByteArray := prog_3_method_8_code
def yX1_isEqual : MethodName := ⟨RX1, "isEqual", "(II)Z"⟩
abbrev cX4_terms : ByteArray := prog_1_method_10_code
def yX4_terms : MethodName := ⟨RX4, "terms", "()I"⟩
abbrev cX3_count : ByteArray := prog_5_method_2_code
def yX3_count : MethodName := ⟨RX3, "count", "()I"⟩
abbrev cX4_claims : ByteArray := prog_1_method_11_code
def yX4_claims : MethodName := ⟨RX4, "claims", "()I"⟩
abbrev cX0_count : ByteArray := prog_2_method_2_code
def yX0_count : MethodName := ⟨RX0, "count", "()I"⟩
abbrev cX4_level : ByteArray := prog_1_method_12_code
def yX4_level : MethodName := ⟨RX4, "level", "()I"⟩
abbrev cX0_top : ByteArray := prog_2_method_3_code
def yX0_top : MethodName := ⟨RX0, "top", "()I"⟩
abbrev cX4_checks : ByteArray := prog_1_method_13_code
def yX4_checks : MethodName := ⟨RX4, "checks", "()I"⟩
abbrev cL_term : ByteArray := method_3_code
def yL_term : MethodName := ⟨RL, "term", "(LFloatSolver;IIII[J)I"⟩
abbrev cX4_term : ByteArray := prog_1_method_2_code
def yX4_term : MethodName := ⟨RX4, "term", "(IIII)I"⟩
abbrev cX3_allows : ByteArray := prog_5_method_7_code
def yX3_allows : MethodName := ⟨RX3, "allows", "(IIII)Z"⟩
abbrev cX2_isKind : ByteArray := prog_4_method_2_code
def yX2_isKind : MethodName := ⟨RX2, "isKind", "(I)Z"⟩
abbrev cX2_ofFirst : ByteArray := prog_4_method_4_code
def yX2_ofFirst : MethodName := ⟨RX2, "ofFirst", "(I)I"⟩
abbrev cX3_fits : ByteArray := prog_5_method_8_code
def yX3_fits : MethodName := ⟨RX3, "fits", "(II)Z"⟩
abbrev cX1_isNumber : ByteArray := prog_3_method_2_code
def yX1_isNumber : MethodName := ⟨RX1, "isNumber", "(I)Z"⟩
abbrev cX3_isNumberTerm : ByteArray := prog_5_method_6_code
def yX3_isNumberTerm : MethodName := ⟨RX3, "isNumberTerm", "(I)Z"⟩
abbrev cX3_has : ByteArray := prog_5_method_4_code
def yX3_has : MethodName := ⟨RX3, "has", "(I)Z"⟩
abbrev cX2_givesTruth : ByteArray := prog_4_method_3_code
def yX2_givesTruth : MethodName := ⟨RX2, "givesTruth", "(I)Z"⟩
abbrev cX3_isTruth : ByteArray := prog_5_method_5_code
def yX3_isTruth : MethodName := ⟨RX3, "isTruth", "(I)Z"⟩
abbrev cX2_ofSecond : ByteArray := prog_4_method_5_code
def yX2_ofSecond : MethodName := ⟨RX2, "ofSecond", "(I)I"⟩
abbrev cX2_ofThird : ByteArray := prog_4_method_6_code
def yX2_ofThird : MethodName := ⟨RX2, "ofThird", "(I)I"⟩
abbrev cX3_find : ByteArray := prog_5_method_9_code
def yX3_find : MethodName := ⟨RX3, "find", "(IIII)I"⟩
abbrev cX3_isFull : ByteArray := prog_5_method_3_code
def yX3_isFull : MethodName := ⟨RX3, "isFull", "()Z"⟩
abbrev cX3_append : ByteArray := prog_5_method_10_code
def yX3_append : MethodName := ⟨RX3, "append", "(IIII)I"⟩
abbrev cX3_partsBelow : ByteArray := prog_5_method_11_code
def yX3_partsBelow : MethodName := ⟨RX3, "partsBelow", "(II)I"⟩
abbrev cX2_isTerm : ByteArray := prog_4_method_7_code
def yX2_isTerm : MethodName := ⟨RX2, "isTerm", "(I)Z"⟩
abbrev cX3_noteVariables : ByteArray := prog_5_method_12_code
def yX3_noteVariables : MethodName := ⟨RX3, "noteVariables", "(I)V"⟩
abbrev cL_claim : ByteArray := method_4_code
def yL_claim : MethodName := ⟨RL, "claim", "(LFloatSolver;I[J)I"⟩
abbrev cX4_claim : ByteArray := prog_1_method_3_code
def yX4_claim : MethodName := ⟨RX4, "claim", "(I)I"⟩
abbrev cX0_isFull : ByteArray := prog_2_method_4_code
def yX0_isFull : MethodName := ⟨RX0, "isFull", "()Z"⟩
abbrev cX0_push : ByteArray := prog_2_method_5_code
def yX0_push : MethodName := ⟨RX0, "push", "(I)I"⟩
abbrev cL_open : ByteArray := method_5_code
def yL_open : MethodName := ⟨RL, "open", "(LFloatSolver;[J)I"⟩
abbrev cX4_open : ByteArray := prog_1_method_4_code
def yX4_open : MethodName := ⟨RX4, "open", "()I"⟩
abbrev cX0_raise : ByteArray := prog_2_method_6_code
def yX0_raise : MethodName := ⟨RX0, "raise", "()I"⟩
abbrev cL_close : ByteArray := method_6_code
def yL_close : MethodName := ⟨RL, "close", "(LFloatSolver;[J)I"⟩
abbrev cX4_close : ByteArray := prog_1_method_5_code
def yX4_close : MethodName := ⟨RX4, "close", "()I"⟩
abbrev cX0_drop : ByteArray := prog_2_method_7_code
def yX0_drop : MethodName := ⟨RX0, "drop", "()I"⟩
abbrev cL_model : ByteArray := method_7_code
def yL_model : MethodName := ⟨RL, "model", "(LFloatSolver;I[J)I"⟩
abbrev cX4_model : ByteArray := prog_1_method_7_code
def yX4_model : MethodName := ⟨RX4, "model", "(I)I"⟩
abbrev cL_value : ByteArray := method_8_code
def yL_value : MethodName := ⟨RL, "value", "(LFloatSolver;I[J)I"⟩
abbrev cX4_value : ByteArray := prog_1_method_8_code
def yX4_value : MethodName := ⟨RX4, "value", "(I)I"⟩
abbrev cX3_answer : ByteArray := prog_5_method_16_code
def yX3_answer : MethodName := ⟨RX3, "answer", "(III)I"⟩
abbrev cL_reckon : ByteArray := method_9_code
def yL_reckon : MethodName := ⟨RL, "reckon", "(LFloatSolver;III[J)I"⟩
abbrev cX4_reckon : ByteArray := prog_1_method_9_code
def yX4_reckon : MethodName := ⟨RX4, "reckon", "(III)I"⟩
abbrev cX1_isOperation : ByteArray := prog_3_method_3_code
def yX1_isOperation : MethodName := ⟨RX1, "isOperation", "(I)Z"⟩
abbrev cX5_init : ByteArray := prog_7_method_1_code
def yX5_init : MethodName := ⟨RX5, "<init>", "()V"⟩
abbrev cX5_thrown : ByteArray := prog_7_method_2_code
def yX5_thrown : MethodName := ⟨RX5, "thrown", "()I"⟩
abbrev cX5_term : ByteArray := prog_7_method_20_code
def yX5_term : MethodName := ⟨RX5, "term", "(IIII)I"⟩
abbrev cX5_fits : ByteArray := prog_7_method_19_code
def yX5_fits : MethodName := ⟨RX5, "fits", "(IIII)Z"⟩
abbrev cX5_out : ByteArray := prog_7_method_3_code
def yX5_out : MethodName := ⟨RX5, "out", "(II)Z"⟩
abbrev cX5_isTruth : ByteArray := prog_7_method_17_code
def yX5_isTruth : MethodName := ⟨RX5, "isTruth", "(I)Z"⟩
abbrev cX5_isNumber : ByteArray := prog_7_method_16_code
def yX5_isNumber : MethodName := ⟨RX5, "isNumber", "(I)Z"⟩
abbrev cX5_names : ByteArray := prog_7_method_18_code
def yX5_names : MethodName := ⟨RX5, "names", "(I)I"⟩
abbrev cX5_claim : ByteArray := prog_7_method_23_code
def yX5_claim : MethodName := ⟨RX5, "claim", "(I)I"⟩
abbrev cX5_open : ByteArray := prog_7_method_24_code
def yX5_open : MethodName := ⟨RX5, "open", "()I"⟩
abbrev cX5_close : ByteArray := prog_7_method_25_code
def yX5_close : MethodName := ⟨RX5, "close", "()I"⟩
abbrev cX5_check : ByteArray := prog_7_method_26_code
def yX5_check : MethodName := ⟨RX5, "check", "()Z"⟩
abbrev cX5_reckonAll : ByteArray := prog_7_method_21_code
def yX5_reckonAll : MethodName := ⟨RX5, "reckonAll", "(II)V"⟩
abbrev cX5_operate : ByteArray := prog_7_method_15_code
def yX5_operate : MethodName := ⟨RX5, "operate", "(III)I"⟩
abbrev cX5_add : ByteArray := prog_7_method_10_code
def yX5_add : MethodName := ⟨RX5, "add", "(II)I"⟩
abbrev cX5_nan : ByteArray := prog_7_method_5_code
def yX5_nan : MethodName := ⟨RX5, "nan", "(I)Z"⟩
abbrev cX5_infinite : ByteArray := prog_7_method_6_code
def yX5_infinite : MethodName := ⟨RX5, "infinite", "(I)Z"⟩
abbrev cX5_worthOf : ByteArray := prog_7_method_8_code
def yX5_worthOf : MethodName := ⟨RX5, "worthOf", "(I)I"⟩
abbrev cX5_quarters : ByteArray := prog_7_method_4_code
def yX5_quarters : MethodName := ⟨RX5, "quarters", "(I)I"⟩
abbrev cX5_round : ByteArray := prog_7_method_9_code
def yX5_round : MethodName := ⟨RX5, "round", "(I)I"⟩
abbrev cX5_multiply : ByteArray := prog_7_method_11_code
def yX5_multiply : MethodName := ⟨RX5, "multiply", "(II)I"⟩
abbrev cX5_zero : ByteArray := prog_7_method_7_code
def yX5_zero : MethodName := ⟨RX5, "zero", "(I)Z"⟩
abbrev cX5_less : ByteArray := prog_7_method_13_code
def yX5_less : MethodName := ⟨RX5, "less", "(II)Z"⟩
abbrev cX5_truth : ByteArray := prog_7_method_14_code
def yX5_truth : MethodName := ⟨RX5, "truth", "(Z)I"⟩
abbrev cX5_equal : ByteArray := prog_7_method_12_code
def yX5_equal : MethodName := ⟨RX5, "equal", "(II)Z"⟩
abbrev cX5_allHold : ByteArray := prog_7_method_22_code
def yX5_allHold : MethodName := ⟨RX5, "allHold", "()Z"⟩
abbrev cX5_model : ByteArray := prog_7_method_27_code
def yX5_model : MethodName := ⟨RX5, "model", "(I)I"⟩
abbrev cX5_value : ByteArray := prog_7_method_28_code
def yX5_value : MethodName := ⟨RX5, "value", "(I)I"⟩
abbrev cX5_reckon : ByteArray := prog_7_method_29_code
def yX5_reckon : MethodName := ⟨RX5, "reckon", "(III)I"⟩
abbrev cX5_terms : ByteArray := prog_7_method_30_code
def yX5_terms : MethodName := ⟨RX5, "terms", "()I"⟩
abbrev cX5_claims : ByteArray := prog_7_method_31_code
def yX5_claims : MethodName := ⟨RX5, "claims", "()I"⟩
abbrev cX5_level : ByteArray := prog_7_method_32_code
def yX5_level : MethodName := ⟨RX5, "level", "()I"⟩
abbrev cX5_checks : ByteArray := prog_7_method_33_code
def yX5_checks : MethodName := ⟨RX5, "checks", "()I"⟩
abbrev cL_law : ByteArray := code
/-- the words of the tables that ride along: one list for all methods -/
def wA : List Cond := lw_tbl.filter goodWord
theorem wA_mem {w : Cond} (h : w ∈ lw_tbl) (g : goodWord w = true) : w ∈ wA := List.mem_filter.mpr ⟨h, g⟩
theorem wA_good : ∀ w ∈ wA, (w.onTables && w.keeps) = true ∨ ∃ ty, w = .arrayClass ty := fun w h => good_of_word (List.mem_filter.mp h).2
theorem wA_in {c d : Cond} (h : d ∈ wA) : GoodIn (c :: wA) (d :: wA) := fun w hw => (List.mem_cons.mp hw).elim (fun e => by subst e; exact ⟨List.mem_cons_of_mem _ h, wA_good _ h⟩) (fun hw => ⟨List.mem_cons_of_mem _ hw, wA_good _ hw⟩)
theorem wA_wsV {c d : Cond} {own C : String} {i : Nat} {y : MethodName} (h1 : Cond.methodLink own i y ∈ wA) (h2 : Cond.instanceMethod y ∈ wA) (h3 : Cond.selects C y y ∈ wA) (h4 : Cond.initialized C ∈ wA) (h : d ∈ wA) : GoodIn (c :: wA) (wsV own i C y (d :: wA)) := by
  intro w hw
  unfold wsV at hw
  rcases List.mem_append.mp hw with q | q
  · simp only [List.mem_cons, List.not_mem_nil, or_false] at q
    rcases q with rfl | rfl | rfl | rfl
    · exact ⟨List.mem_cons_of_mem _ h1, wA_good _ h1⟩
    · exact ⟨List.mem_cons_of_mem _ h2, wA_good _ h2⟩
    · exact ⟨List.mem_cons_of_mem _ h3, wA_good _ h3⟩
    · exact ⟨List.mem_cons_of_mem _ h4, wA_good _ h4⟩
  · exact wA_in h w q
theorem wA_wsS {c d : Cond} {own : String} {i : Nat} {y : MethodName} (h1 : Cond.methodLink own i y ∈ wA) (h2 : Cond.static y ∈ wA) (h3 : Cond.initialized y.cls ∈ wA) (h : d ∈ wA) : GoodIn (c :: wA) (va_wsS own i y (d :: wA)) := by
  intro w hw
  unfold va_wsS at hw
  rcases List.mem_append.mp hw with q | q
  · simp only [List.mem_cons, List.not_mem_nil, or_false] at q
    rcases q with rfl | rfl | rfl
    · exact ⟨List.mem_cons_of_mem _ h1, wA_good _ h1⟩
    · exact ⟨List.mem_cons_of_mem _ h2, wA_good _ h2⟩
    · exact ⟨List.mem_cons_of_mem _ h3, wA_good _ h3⟩
  · exact wA_in h w q
