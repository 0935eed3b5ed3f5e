def R_PS : String := "MeaningTypes$ProfileSet"
def F_PS : u_T := fun k => match k with
  | 0 => ("MeaningTypes$ProfileSet", "words", "[J", true)
  | 1 => ("MeaningTypes$ProfileSet", "usedWords", "I", false)
  | _ => ("MeaningTypes$ProfileSet", "end", "I", false)
def t_PS : Nat → FieldType := fun k => match k with
  | 0 => .array (.long)
  | 1 => .int
  | _ => .int
theorem n_PS : ∀ a, a < 3 → ∀ b, b < 3 → a ≠ b → (F_PS a).2.1 ≠ (F_PS b).2.1 := by decide +kernel
theorem t_PS_ok : ∀ k, k < 3 → parseFieldDescriptor (F_PS k).2.2.1 = some (t_PS k) := by decide +kernel
def R_TT : String := "MeaningTypes$TypeTable"
def F_TT : u_T := fun k => match k with
  | 0 => ("MeaningTypes$TypeTable", "kind", "[I", true)
  | 1 => ("MeaningTypes$TypeTable", "first", "[I", true)
  | 2 => ("MeaningTypes$TypeTable", "second", "[I", true)
  | 3 => ("MeaningTypes$TypeTable", "depth", "[I", true)
  | 4 => ("MeaningTypes$TypeTable", "isInterface", "[Z", true)
  | _ => ("MeaningTypes$TypeTable", "count", "I", false)
def t_TT : Nat → FieldType := fun k => match k with
  | 0 => .array (.int)
  | 1 => .array (.int)
  | 2 => .array (.int)
  | 3 => .array (.int)
  | 4 => .array (.boolean)
  | _ => .int
theorem n_TT : ∀ a, a < 6 → ∀ b, b < 6 → a ≠ b → (F_TT a).2.1 ≠ (F_TT b).2.1 := by decide +kernel
theorem t_TT_ok : ∀ k, k < 6 → parseFieldDescriptor (F_TT k).2.2.1 = some (t_TT k) := by decide +kernel
def R_MG : String := "MeaningTypes$Meanings"
def F_MG : u_T := fun k => match k with
  | 0 => ("MeaningTypes$Meanings", "table", "LMeaningTypes$TypeTable;", true)
  | 1 => ("MeaningTypes$Meanings", "rows", "[LMeaningTypes$ProfileSet;", true)
  | 2 => ("MeaningTypes$Meanings", "starts", "LMeaningTypes$ProfileSet;", true)
  | 3 => ("MeaningTypes$Meanings", "ends", "LMeaningTypes$ProfileSet;", true)
  | 4 => ("MeaningTypes$Meanings", "crossed", "LMeaningTypes$ProfileSet;", true)
  | _ => ("MeaningTypes$Meanings", "broken", "LMeaningTypes$ProfileSet;", true)
def t_MG : Nat → FieldType := fun k => match k with
  | 0 => .object "MeaningTypes$TypeTable"
  | 1 => .array (.object "MeaningTypes$ProfileSet")
  | 2 => .object "MeaningTypes$ProfileSet"
  | 3 => .object "MeaningTypes$ProfileSet"
  | 4 => .object "MeaningTypes$ProfileSet"
  | _ => .object "MeaningTypes$ProfileSet"
theorem n_MG : ∀ a, a < 6 → ∀ b, b < 6 → a ≠ b → (F_MG a).2.1 ≠ (F_MG b).2.1 := by decide +kernel
theorem t_MG_ok : ∀ k, k < 6 → parseFieldDescriptor (F_MG k).2.2.1 = some (t_MG k) := by decide +kernel
def R_VT : String := "MeaningTypes$ValueTable"
def F_VT : u_T := fun k => match k with
  | 0 => ("MeaningTypes$ValueTable", "kind", "[I", true)
  | 1 => ("MeaningTypes$ValueTable", "first", "[I", true)
  | 2 => ("MeaningTypes$ValueTable", "second", "[I", true)
  | 3 => ("MeaningTypes$ValueTable", "leaves", "[I", true)
  | 4 => ("MeaningTypes$ValueTable", "count", "I", false)
  | 5 => ("MeaningTypes$ValueTable", "whole", "LMeaningTypes$ProfileSet;", true)
  | 6 => ("MeaningTypes$ValueTable", "firsts", "[LMeaningTypes$ProfileSet;", true)
  | _ => ("MeaningTypes$ValueTable", "seconds", "[LMeaningTypes$ProfileSet;", true)
def t_VT : Nat → FieldType := fun k => match k with
  | 0 => .array (.int)
  | 1 => .array (.int)
  | 2 => .array (.int)
  | 3 => .array (.int)
  | 4 => .int
  | 5 => .object "MeaningTypes$ProfileSet"
  | 6 => .array (.object "MeaningTypes$ProfileSet")
  | _ => .array (.object "MeaningTypes$ProfileSet")
theorem n_VT : ∀ a, a < 8 → ∀ b, b < 8 → a ≠ b → (F_VT a).2.1 ≠ (F_VT b).2.1 := by decide +kernel
theorem t_VT_ok : ∀ k, k < 8 → parseFieldDescriptor (F_VT k).2.2.1 = some (t_VT k) := by decide +kernel
def R_MT : String := "MeaningTypes"
def F_MT : u_T := fun k => match k with
  | 0 => ("MeaningTypes", "meanings", "LMeaningTypes$Meanings;", true)
  | _ => ("MeaningTypes", "values", "LMeaningTypes$ValueTable;", true)
def t_MT : Nat → FieldType := fun k => match k with
  | 0 => .object "MeaningTypes$Meanings"
  | _ => .object "MeaningTypes$ValueTable"
theorem n_MT : ∀ a, a < 2 → ∀ b, b < 2 → a ≠ b → (F_MT a).2.1 ≠ (F_MT b).2.1 := by decide +kernel
theorem t_MT_ok : ∀ k, k < 2 → parseFieldDescriptor (F_MT k).2.2.1 = some (t_MT k) := by decide +kernel
def R_MM : String := "MeaningTypesModel"
def F_MM : u_T := fun k => match k with
  | 0 => ("MeaningTypesModel", "types", "I", false)
  | 1 => ("MeaningTypesModel", "kind", "[I", true)
  | 2 => ("MeaningTypesModel", "one", "[I", true)
  | 3 => ("MeaningTypesModel", "two", "[I", true)
  | 4 => ("MeaningTypesModel", "depth", "[I", true)
  | 5 => ("MeaningTypesModel", "isInterface", "[Z", true)
  | 6 => ("MeaningTypesModel", "values", "I", false)
  | 7 => ("MeaningTypesModel", "sort", "[I", true)
  | 8 => ("MeaningTypesModel", "first", "[I", true)
  | 9 => ("MeaningTypesModel", "second", "[I", true)
  | 10 => ("MeaningTypesModel", "leaves", "[I", true)
  | 11 => ("MeaningTypesModel", "set", "[J", true)
  | 12 => ("MeaningTypesModel", "known", "I", false)
  | 13 => ("MeaningTypesModel", "products", "I", false)
  | 14 => ("MeaningTypesModel", "arrows", "I", false)
  | _ => ("MeaningTypesModel", "place", "[I", true)
def t_MM : Nat → FieldType := fun k => match k with
  | 0 => .int
  | 1 => .array (.int)
  | 2 => .array (.int)
  | 3 => .array (.int)
  | 4 => .array (.int)
  | 5 => .array (.boolean)
  | 6 => .int
  | 7 => .array (.int)
  | 8 => .array (.int)
  | 9 => .array (.int)
  | 10 => .array (.int)
  | 11 => .array (.long)
  | 12 => .int
  | 13 => .int
  | 14 => .int
  | _ => .array (.int)
theorem n_MM : ∀ a, a < 16 → ∀ b, b < 16 → a ≠ b → (F_MM a).2.1 ≠ (F_MM b).2.1 := by decide +kernel
theorem t_MM_ok : ∀ k, k < 16 → parseFieldDescriptor (F_MM k).2.2.1 = some (t_MM k) := by decide +kernel
def R_LW : String := "MeaningTypesLaw"
def R_JI : String := "java/lang/Integer"
def R_JL : String := "java/lang/Long"
abbrev gx_cl : List vw_C := [(R_PS, F_PS, 3), (R_TT, F_TT, 6), (R_MG, F_MG, 6), (R_VT, F_VT, 8), (R_MT, F_MT, 2), (R_MM, F_MM, 16)]
abbrev b_MT_init : ByteArray := prog_1_method_1_code
def y_MT_init : MethodName := ⟨R_MT, "<init>", "()V"⟩
abbrev b_MG_init : ByteArray := prog_2_method_1_code
def y_MG_init : MethodName := ⟨R_MG, "<init>", "()V"⟩
abbrev b_TT_init : ByteArray := prog_4_method_1_code
def y_TT_init : MethodName := ⟨R_TT, "<init>", "()V"⟩
abbrev b_PS_init : ByteArray := prog_3_method_1_code
def y_PS_init : MethodName := ⟨R_PS, "<init>", "(I)V"⟩
abbrev b_PS_wordsFor : ByteArray := prog_3_method_2_code
def y_PS_wordsFor : MethodName := ⟨R_PS, "wordsFor", "(I)I"⟩
abbrev b_PS_restart : ByteArray := prog_3_method_3_code
def y_PS_restart : MethodName := ⟨R_PS, "restart", "(I)V"⟩
abbrev b_PS_add : ByteArray := prog_3_method_4_code
def y_PS_add : MethodName := ⟨R_PS, "add", "(I)V"⟩
abbrev b_VT_init : ByteArray := prog_5_method_1_code
def y_VT_init : MethodName := ⟨R_VT, "<init>", "()V"⟩
abbrev b_MT_constants : ByteArray := prog_1_method_2_code
def y_MT_constants : MethodName := ⟨R_MT, "constants", "(I)I"⟩
abbrev b_MT_isFull : ByteArray := prog_1_method_22_code
def y_MT_isFull : MethodName := ⟨R_MT, "isFull", "()Z"⟩
abbrev b_MG_add : ByteArray := prog_2_method_2_code
def y_MG_add : MethodName := ⟨R_MG, "add", "(III)I"⟩
abbrev b_TT_add : ByteArray := prog_4_method_4_code
def y_TT_add : MethodName := ⟨R_TT, "add", "(III)I"⟩
abbrev b_TT_depthOf : ByteArray := prog_4_method_2_code
def y_TT_depthOf : MethodName := ⟨R_TT, "depthOf", "(III)I"⟩
abbrev b_TT_makesInterface : ByteArray := prog_4_method_3_code
def y_TT_makesInterface : MethodName := ⟨R_TT, "makesInterface", "(III)Z"⟩
abbrev b_TT_profileOfConstant : ByteArray := prog_4_method_8_code
def y_TT_profileOfConstant : MethodName := ⟨R_TT, "profileOfConstant", "(I)I"⟩
abbrev b_MT_holds : ByteArray := prog_1_method_25_code
def y_MT_holds : MethodName := ⟨R_MT, "holds", "(II)Z"⟩
abbrev b_TT_profileFrom : ByteArray := prog_4_method_9_code
def y_TT_profileFrom : MethodName := ⟨R_TT, "profileFrom", "(I)I"⟩
abbrev b_TT_followsFromParts : ByteArray := prog_4_method_10_code
def y_TT_followsFromParts : MethodName := ⟨R_TT, "followsFromParts", "(II)Z"⟩
abbrev b_MG_addPairs : ByteArray := prog_2_method_3_code
def y_MG_addPairs : MethodName := ⟨R_MG, "addPairs", "(LMeaningTypes$ProfileSet;LMeaningTypes$ProfileSet;LMeaningTypes$ProfileSet;)V"⟩
abbrev b_PS_nextFrom : ByteArray := prog_3_method_6_code
def y_PS_nextFrom : MethodName := ⟨R_PS, "nextFrom", "(I)I"⟩
abbrev b_JL_bitCount : ByteArray := prog_9_method_50_code
def y_JL_bitCount : MethodName := ⟨R_JL, "bitCount", "(J)I"⟩
abbrev b_TT_partHolds : ByteArray := prog_4_method_7_code
def y_TT_partHolds : MethodName := ⟨R_TT, "partHolds", "(I[II)I"⟩
abbrev b_MG_crossStartsWithEnds : ByteArray := prog_2_method_8_code
def y_MG_crossStartsWithEnds : MethodName := ⟨R_MG, "crossStartsWithEnds", "()V"⟩
abbrev b_MG_addFunctions : ByteArray := prog_2_method_4_code
def y_MG_addFunctions : MethodName := ⟨R_MG, "addFunctions", "(LMeaningTypes$ProfileSet;LMeaningTypes$ProfileSet;)V"⟩
abbrev b_TT_allOfKind : ByteArray := prog_4_method_6_code
def y_TT_allOfKind : MethodName := ⟨R_TT, "allOfKind", "(I)I"⟩
abbrev b_MG_findStepsThatBreak : ByteArray := prog_2_method_5_code
def y_MG_findStepsThatBreak : MethodName := ⟨R_MG, "findStepsThatBreak", "(ILMeaningTypes$ProfileSet;)V"⟩
abbrev b_MG_uniteSteps : ByteArray := prog_2_method_6_code
def y_MG_uniteSteps : MethodName := ⟨R_MG, "uniteSteps", "()V"⟩
abbrev b_PS_has : ByteArray := prog_3_method_5_code
def y_PS_has : MethodName := ⟨R_PS, "has", "(I)Z"⟩
abbrev b_MG_addStep : ByteArray := prog_2_method_7_code
def y_MG_addStep : MethodName := ⟨R_MG, "addStep", "(I)V"⟩
abbrev b_MT_product : ByteArray := prog_1_method_3_code
def y_MT_product : MethodName := ⟨R_MT, "product", "(II)I"⟩
abbrev b_MT_makeFromParts : ByteArray := prog_1_method_23_code
def y_MT_makeFromParts : MethodName := ⟨R_MT, "makeFromParts", "(III)I"⟩
abbrev b_MT_hasType : ByteArray := prog_1_method_21_code
def y_MT_hasType : MethodName := ⟨R_MT, "hasType", "(I)Z"⟩
abbrev b_MT_arrow : ByteArray := prog_1_method_4_code
def y_MT_arrow : MethodName := ⟨R_MT, "arrow", "(II)I"⟩
abbrev b_MT_union : ByteArray := prog_1_method_5_code
def y_MT_union : MethodName := ⟨R_MT, "union", "(II)I"⟩
abbrev b_MT_meet : ByteArray := prog_1_method_6_code
def y_MT_meet : MethodName := ⟨R_MT, "meet", "(II)I"⟩
abbrev b_MT_not : ByteArray := prog_1_method_7_code
def y_MT_not : MethodName := ⟨R_MT, "not", "(I)I"⟩
abbrev b_MT_any : ByteArray := prog_1_method_8_code
def y_MT_any : MethodName := ⟨R_MT, "any", "()I"⟩
abbrev b_MT_types : ByteArray := prog_1_method_9_code
def y_MT_types : MethodName := ⟨R_MT, "types", "()I"⟩
abbrev b_MT_empty : ByteArray := prog_1_method_10_code
def y_MT_empty : MethodName := ⟨R_MT, "empty", "(I)Z"⟩
abbrev b_MG_someLiesIn : ByteArray := prog_2_method_11_code
def y_MG_someLiesIn : MethodName := ⟨R_MG, "someLiesIn", "(II)Z"⟩
abbrev b_MT_within : ByteArray := prog_1_method_11_code
def y_MT_within : MethodName := ⟨R_MT, "within", "(II)Z"⟩
abbrev b_MG_liesIn : ByteArray := prog_2_method_10_code
def y_MG_liesIn : MethodName := ⟨R_MG, "liesIn", "(II)Z"⟩
abbrev b_MT_compare : ByteArray := prog_1_method_12_code
def y_MT_compare : MethodName := ⟨R_MT, "compare", "(II)I"⟩
abbrev b_MT_answers : ByteArray := prog_1_method_13_code
def y_MT_answers : MethodName := ⟨R_MT, "answers", "(III)Z"⟩
abbrev b_TT_keep : ByteArray := prog_4_method_5_code
def y_TT_keep : MethodName := ⟨R_TT, "keep", "(I)V"⟩
abbrev b_MT_constant : ByteArray := prog_1_method_14_code
def y_MT_constant : MethodName := ⟨R_MT, "constant", "(I)I"⟩
abbrev b_MT_makeValue : ByteArray := prog_1_method_24_code
def y_MT_makeValue : MethodName := ⟨R_MT, "makeValue", "(IIII)I"⟩
abbrev b_VT_add : ByteArray := prog_5_method_3_code
def y_VT_add : MethodName := ⟨R_VT, "add", "(IIII)I"⟩
abbrev b_MT_pair : ByteArray := prog_1_method_15_code
def y_MT_pair : MethodName := ⟨R_MT, "pair", "(II)I"⟩
abbrev b_VT_has : ByteArray := prog_5_method_2_code
def y_VT_has : MethodName := ⟨R_VT, "has", "(I)Z"⟩
abbrev b_MT_function : ByteArray := prog_1_method_16_code
def y_MT_function : MethodName := ⟨R_MT, "function", "(I)I"⟩
abbrev b_MT_belongs : ByteArray := prog_1_method_17_code
def y_MT_belongs : MethodName := ⟨R_MT, "belongs", "(II)Z"⟩
abbrev b_VT_typesOf : ByteArray := prog_5_method_4_code
def y_VT_typesOf : MethodName := ⟨R_VT, "typesOf", "(ILMeaningTypes$Meanings;)I"⟩
abbrev b_VT_fill : ByteArray := prog_5_method_5_code
def y_VT_fill : MethodName := ⟨R_VT, "fill", "(LMeaningTypes$ProfileSet;ILMeaningTypes$Meanings;I)V"⟩
abbrev b_MG_addMembers : ByteArray := prog_2_method_9_code
def y_MG_addMembers : MethodName := ⟨R_MG, "addMembers", "(ILMeaningTypes$ProfileSet;)V"⟩
abbrev b_MT_match : ByteArray := prog_1_method_18_code
def y_MT_match : MethodName := ⟨R_MT, "match", "(IIII)I"⟩
abbrev b_MT_sorts : ByteArray := prog_1_method_19_code
def y_MT_sorts : MethodName := ⟨R_MT, "sorts", "(I)I"⟩
abbrev b_JI_bitCount : ByteArray := prog_8_method_49_code
def y_JI_bitCount : MethodName := ⟨R_JI, "bitCount", "(I)I"⟩
abbrev b_MT_cut : ByteArray := prog_1_method_20_code
def y_MT_cut : MethodName := ⟨R_MT, "cut", "(I)I"⟩
abbrev b_MM_init : ByteArray := prog_7_method_1_code
def y_MM_init : MethodName := ⟨R_MM, "<init>", "()V"⟩
abbrev b_MM_constants : ByteArray := prog_7_method_9_code
def y_MM_constants : MethodName := ⟨R_MM, "constants", "(I)I"⟩
abbrev b_MM_make : ByteArray := prog_7_method_6_code
def y_MM_make : MethodName := ⟨R_MM, "make", "(IIII)I"⟩
abbrev b_MM_product : ByteArray := prog_7_method_10_code
def y_MM_product : MethodName := ⟨R_MM, "product", "(II)I"⟩
abbrev b_MM_combine : ByteArray := prog_7_method_8_code
def y_MM_combine : MethodName := ⟨R_MM, "combine", "(IIII)I"⟩
abbrev b_MM_isType : ByteArray := prog_7_method_5_code
def y_MM_isType : MethodName := ⟨R_MM, "isType", "(I)Z"⟩
abbrev b_MM_deeper : ByteArray := prog_7_method_7_code
def y_MM_deeper : MethodName := ⟨R_MM, "deeper", "(II)I"⟩
abbrev b_MM_arrow : ByteArray := prog_7_method_11_code
def y_MM_arrow : MethodName := ⟨R_MM, "arrow", "(II)I"⟩
abbrev b_MM_union : ByteArray := prog_7_method_12_code
def y_MM_union : MethodName := ⟨R_MM, "union", "(II)I"⟩
abbrev b_MM_meet : ByteArray := prog_7_method_13_code
def y_MM_meet : MethodName := ⟨R_MM, "meet", "(II)I"⟩
abbrev b_MM_not : ByteArray := prog_7_method_14_code
def y_MM_not : MethodName := ⟨R_MM, "not", "(I)I"⟩
abbrev b_MM_any : ByteArray := prog_7_method_15_code
def y_MM_any : MethodName := ⟨R_MM, "any", "()I"⟩
abbrev b_MM_types : ByteArray := prog_7_method_16_code
def y_MM_types : MethodName := ⟨R_MM, "types", "()I"⟩
abbrev b_MM_empty : ByteArray := prog_7_method_27_code
def y_MM_empty : MethodName := ⟨R_MM, "empty", "(I)Z"⟩
abbrev b_MM_work : ByteArray := prog_7_method_25_code
def y_MM_work : MethodName := ⟨R_MM, "work", "(I)V"⟩
abbrev b_MM_number : ByteArray := prog_7_method_19_code
def y_MM_number : MethodName := ⟨R_MM, "number", "(I)V"⟩
abbrev b_MM_clear : ByteArray := prog_7_method_4_code
def y_MM_clear : MethodName := ⟨R_MM, "clear", "(I)V"⟩
abbrev b_MM_put : ByteArray := prog_7_method_3_code
def y_MM_put : MethodName := ⟨R_MM, "put", "(II)Z"⟩
abbrev b_MM_has : ByteArray := prog_7_method_2_code
def y_MM_has : MethodName := ⟨R_MM, "has", "(II)Z"⟩
abbrev b_MM_collect : ByteArray := prog_7_method_20_code
def y_MM_collect : MethodName := ⟨R_MM, "collect", "(I)V"⟩
abbrev b_MM_rowOf : ByteArray := prog_7_method_17_code
def y_MM_rowOf : MethodName := ⟨R_MM, "rowOf", "(III)I"⟩
abbrev b_MM_enter : ByteArray := prog_7_method_21_code
def y_MM_enter : MethodName := ⟨R_MM, "enter", "(II)V"⟩
abbrev b_MM_parts : ByteArray := prog_7_method_18_code
def y_MM_parts : MethodName := ⟨R_MM, "parts", "(IIZI)I"⟩
abbrev b_MM_makePairs : ByteArray := prog_7_method_22_code
def y_MM_makePairs : MethodName := ⟨R_MM, "makePairs", "()Z"⟩
abbrev b_MM_makeFunctions : ByteArray := prog_7_method_23_code
def y_MM_makeFunctions : MethodName := ⟨R_MM, "makeFunctions", "()Z"⟩
abbrev b_MM_addStep : ByteArray := prog_7_method_24_code
def y_MM_addStep : MethodName := ⟨R_MM, "addStep", "(I)Z"⟩
abbrev b_MM_meets : ByteArray := prog_7_method_26_code
def y_MM_meets : MethodName := ⟨R_MM, "meets", "(IIZ)Z"⟩
abbrev b_MM_within : ByteArray := prog_7_method_29_code
def y_MM_within : MethodName := ⟨R_MM, "within", "(II)Z"⟩
abbrev b_MM_lies : ByteArray := prog_7_method_28_code
def y_MM_lies : MethodName := ⟨R_MM, "lies", "(II)Z"⟩
abbrev b_MM_compare : ByteArray := prog_7_method_30_code
def y_MM_compare : MethodName := ⟨R_MM, "compare", "(II)I"⟩
abbrev b_MM_answers : ByteArray := prog_7_method_31_code
def y_MM_answers : MethodName := ⟨R_MM, "answers", "(III)Z"⟩
abbrev b_MM_constant : ByteArray := prog_7_method_34_code
def y_MM_constant : MethodName := ⟨R_MM, "constant", "(I)I"⟩
abbrev b_MM_addValue : ByteArray := prog_7_method_33_code
def y_MM_addValue : MethodName := ⟨R_MM, "addValue", "(IIII)I"⟩
abbrev b_MM_pair : ByteArray := prog_7_method_35_code
def y_MM_pair : MethodName := ⟨R_MM, "pair", "(II)I"⟩
abbrev b_MM_isValue : ByteArray := prog_7_method_32_code
def y_MM_isValue : MethodName := ⟨R_MM, "isValue", "(I)Z"⟩
abbrev b_MM_function : ByteArray := prog_7_method_36_code
def y_MM_function : MethodName := ⟨R_MM, "function", "(I)I"⟩
abbrev b_MM_belongs : ByteArray := prog_7_method_41_code
def y_MM_belongs : MethodName := ⟨R_MM, "belongs", "(II)Z"⟩
abbrev b_MM_prepare : ByteArray := prog_7_method_39_code
def y_MM_prepare : MethodName := ⟨R_MM, "prepare", "(I)V"⟩
abbrev b_MM_sortRows : ByteArray := prog_7_method_37_code
def y_MM_sortRows : MethodName := ⟨R_MM, "sortRows", "(I)V"⟩
abbrev b_MM_pairRows : ByteArray := prog_7_method_38_code
def y_MM_pairRows : MethodName := ⟨R_MM, "pairRows", "(III)V"⟩
abbrev b_MM_isIn : ByteArray := prog_7_method_40_code
def y_MM_isIn : MethodName := ⟨R_MM, "isIn", "(II)Z"⟩
abbrev b_MM_match : ByteArray := prog_7_method_42_code
def y_MM_match : MethodName := ⟨R_MM, "match", "(IIII)I"⟩
abbrev b_MM_sorts : ByteArray := prog_7_method_43_code
def y_MM_sorts : MethodName := ⟨R_MM, "sorts", "(I)I"⟩
abbrev b_MM_cut : ByteArray := prog_7_method_44_code
def y_MM_cut : MethodName := ⟨R_MM, "cut", "(I)I"⟩
/-- the words that stay true, of all that the tables say -/
def gx_tG : List Cond := lw_tbl.filter goodWord
theorem gx_tG_good : gx_tG.all goodWord = true := List.all_eq_true.mpr fun w hw => (List.mem_filter.mp hw).2
theorem gx_tG_in : ∀ w ∈ gx_tG, w ∈ lw_tbl := fun w hw => (List.mem_filter.mp hw).1
theorem gx_mem {w : Cond} (i : Nat) (h : tables_1[i]? = some w) (hg : goodWord w = true) : w ∈ gx_tG := List.mem_filter.mpr ⟨List.mem_append_right _ (List.mem_of_getElem? h), hg⟩
theorem gx_mems {w : Cond} (i : Nat) (h : (k2_sels lw_privs)[i]? = some w) (hg : goodWord w = true) : w ∈ gx_tG := List.mem_filter.mpr ⟨List.mem_append_left _ (List.mem_of_getElem? h), hg⟩
theorem wd_0 : (Jvm.Cond.initialized "MeaningTypesLaw") ∈ gx_tG := gx_mem 0 (by decide +kernel) (by decide +kernel)
theorem wd_1 : (Jvm.Cond.initialized "MeaningTypes") ∈ gx_tG := gx_mem 1 (by decide +kernel) (by decide +kernel)
theorem wd_2 : (Jvm.Cond.initialized "MeaningTypes$Meanings") ∈ gx_tG := gx_mem 2 (by decide +kernel) (by decide +kernel)
theorem wd_3 : (Jvm.Cond.initialized "MeaningTypes$TypeTable") ∈ gx_tG := gx_mem 3 (by decide +kernel) (by decide +kernel)
theorem wd_4 : (Jvm.Cond.initialized "MeaningTypes$ProfileSet") ∈ gx_tG := gx_mem 4 (by decide +kernel) (by decide +kernel)
theorem wd_5 : (Jvm.Cond.initialized "java/lang/Math") ∈ gx_tG := gx_mem 5 (by decide +kernel) (by decide +kernel)
theorem wd_6 : (Jvm.Cond.initialized "MeaningTypes$ValueTable") ∈ gx_tG := gx_mem 6 (by decide +kernel) (by decide +kernel)
theorem wd_7 : (Jvm.Cond.initialized "MeaningTypesModel") ∈ gx_tG := gx_mem 7 (by decide +kernel) (by decide +kernel)
theorem wd_8 : (Jvm.Cond.initialized "java/lang/Long") ∈ gx_tG := gx_mem 8 (by decide +kernel) (by decide +kernel)
theorem wd_9 : (Jvm.Cond.initialized "java/lang/Integer") ∈ gx_tG := gx_mem 9 (by decide +kernel) (by decide +kernel)
theorem wd_10 : (Jvm.Cond.classLink "MeaningTypesLaw" (7 : Nat) "MeaningTypes") ∈ gx_tG := gx_mem 10 (by decide +kernel) (by decide +kernel)
theorem wd_11 : (Jvm.Cond.instantiable "MeaningTypes" (2 : Nat)) ∈ gx_tG := gx_mem 11 (by decide +kernel) (by decide +kernel)
theorem wd_12 : (Jvm.Cond.methodLink "MeaningTypesLaw" (9 : Nat) ({ cls := "MeaningTypes", name := "<init>", desc := "()V" } : Jvm.MethodName)) ∈ gx_tG := gx_mem 12 (by decide +kernel) (by decide +kernel)
theorem wd_13 : (Jvm.Cond.instanceMethod ({ cls := "MeaningTypes", name := "<init>", desc := "()V" } : Jvm.MethodName)) ∈ gx_tG := gx_mem 13 (by decide +kernel) (by decide +kernel)
theorem wd_14 : (Jvm.Cond.code ({ cls := "MeaningTypes", name := "<init>", desc := "()V" } : Jvm.MethodName) prog_1_method_1_code (1 : Nat) (Option.none : Option Jvm.ClassFile.FieldType)) ∈ gx_tG := gx_mem 14 (by decide +kernel) (by decide +kernel)
theorem wd_15 : (Jvm.Cond.methodLink "MeaningTypes" (3 : Nat) ({ cls := "java/lang/Object", name := "<init>", desc := "()V" } : Jvm.MethodName)) ∈ gx_tG := gx_mem 15 (by decide +kernel) (by decide +kernel)
theorem wd_16 : (Jvm.Cond.instanceMethod ({ cls := "java/lang/Object", name := "<init>", desc := "()V" } : Jvm.MethodName)) ∈ gx_tG := gx_mem 16 (by decide +kernel) (by decide +kernel)
theorem wd_17 : (Jvm.Cond.code ({ cls := "java/lang/Object", name := "<init>", desc := "()V" } : Jvm.MethodName) object_method_1_code (1 : Nat) (Option.none : Option Jvm.ClassFile.FieldType)) ∈ gx_tG := gx_mem 17 (by decide +kernel) (by decide +kernel)
theorem wd_18 : (Jvm.Cond.classLink "MeaningTypes" (9 : Nat) "MeaningTypes$Meanings") ∈ gx_tG := gx_mem 18 (by decide +kernel) (by decide +kernel)
theorem wd_19 : (Jvm.Cond.instantiable "MeaningTypes$Meanings" (6 : Nat)) ∈ gx_tG := gx_mem 19 (by decide +kernel) (by decide +kernel)
theorem wd_20 : (Jvm.Cond.methodLink "MeaningTypes" (11 : Nat) ({ cls := "MeaningTypes$Meanings", name := "<init>", desc := "()V" } : Jvm.MethodName)) ∈ gx_tG := gx_mem 20 (by decide +kernel) (by decide +kernel)
theorem wd_21 : (Jvm.Cond.instanceMethod ({ cls := "MeaningTypes$Meanings", name := "<init>", desc := "()V" } : Jvm.MethodName)) ∈ gx_tG := gx_mem 21 (by decide +kernel) (by decide +kernel)
theorem wd_22 : (Jvm.Cond.code ({ cls := "MeaningTypes$Meanings", name := "<init>", desc := "()V" } : Jvm.MethodName) prog_2_method_1_code (2 : Nat) (Option.none : Option Jvm.ClassFile.FieldType)) ∈ gx_tG := gx_mem 22 (by decide +kernel) (by decide +kernel)
theorem wd_23 : (Jvm.Cond.methodLink "MeaningTypes$Meanings" (3 : Nat) ({ cls := "java/lang/Object", name := "<init>", desc := "()V" } : Jvm.MethodName)) ∈ gx_tG := gx_mem 23 (by decide +kernel) (by decide +kernel)
theorem wd_24 : (Jvm.Cond.classLink "MeaningTypes$Meanings" (9 : Nat) "MeaningTypes$TypeTable") ∈ gx_tG := gx_mem 24 (by decide +kernel) (by decide +kernel)
theorem wd_25 : (Jvm.Cond.instantiable "MeaningTypes$TypeTable" (6 : Nat)) ∈ gx_tG := gx_mem 25 (by decide +kernel) (by decide +kernel)
theorem wd_27 : (Jvm.Cond.instanceMethod ({ cls := "MeaningTypes$TypeTable", name := "<init>", desc := "()V" } : Jvm.MethodName)) ∈ gx_tG := gx_mem 27 (by decide +kernel) (by decide +kernel)
theorem wd_28 : (Jvm.Cond.code ({ cls := "MeaningTypes$TypeTable", name := "<init>", desc := "()V" } : Jvm.MethodName) prog_4_method_1_code (1 : Nat) (Option.none : Option Jvm.ClassFile.FieldType)) ∈ gx_tG := gx_mem 28 (by decide +kernel) (by decide +kernel)
theorem wd_29 : (Jvm.Cond.methodLink "MeaningTypes$TypeTable" (3 : Nat) ({ cls := "java/lang/Object", name := "<init>", desc := "()V" } : Jvm.MethodName)) ∈ gx_tG := gx_mem 29 (by decide +kernel) (by decide +kernel)
theorem wd_30 : (Jvm.Cond.fieldLink "MeaningTypes$TypeTable" (9 : Nat) "MeaningTypes$TypeTable" "kind" "[I") ∈ gx_tG := gx_mem 30 (by decide +kernel) (by decide +kernel)
theorem wd_31 : (Jvm.Cond.fieldLink "MeaningTypes$TypeTable" (15 : Nat) "MeaningTypes$TypeTable" "first" "[I") ∈ gx_tG := gx_mem 31 (by decide +kernel) (by decide +kernel)
theorem wd_33 : (Jvm.Cond.fieldLink "MeaningTypes$TypeTable" (18 : Nat) "MeaningTypes$TypeTable" "second" "[I") ∈ gx_tG := gx_mem 33 (by decide +kernel) (by decide +kernel)
theorem wd_35 : (Jvm.Cond.fieldLink "MeaningTypes$TypeTable" (21 : Nat) "MeaningTypes$TypeTable" "depth" "[I") ∈ gx_tG := gx_mem 35 (by decide +kernel) (by decide +kernel)
theorem wd_36 : (Jvm.Cond.fieldLink "MeaningTypes$TypeTable" (24 : Nat) "MeaningTypes$TypeTable" "isInterface" "[Z") ∈ gx_tG := gx_mem 36 (by decide +kernel) (by decide +kernel)
theorem wd_39 : (Jvm.Cond.fieldLink "MeaningTypes$TypeTable" (34 : Nat) "MeaningTypes$TypeTable" "count" "I") ∈ gx_tG := gx_mem 39 (by decide +kernel) (by decide +kernel)
theorem wd_55 : (Jvm.Cond.arrayClass Jvm.ClassFile.FieldType.int) ∈ gx_tG := gx_mem 55 (by decide +kernel) (by decide +kernel)
theorem wd_56 : (Jvm.Cond.arrayClass Jvm.ClassFile.FieldType.boolean) ∈ gx_tG := gx_mem 56 (by decide +kernel) (by decide +kernel)
theorem wd_57 : (Jvm.Cond.classLink "MeaningTypes$Meanings" (18 : Nat) "MeaningTypes$ProfileSet") ∈ gx_tG := gx_mem 57 (by decide +kernel) (by decide +kernel)
theorem wd_59 : (Jvm.Cond.instantiable "MeaningTypes$ProfileSet" (3 : Nat)) ∈ gx_tG := gx_mem 59 (by decide +kernel) (by decide +kernel)
theorem wd_60 : (Jvm.Cond.methodLink "MeaningTypes$Meanings" (24 : Nat) ({ cls := "MeaningTypes$ProfileSet", name := "<init>", desc := "(I)V" } : Jvm.MethodName)) ∈ gx_tG := gx_mem 60 (by decide +kernel) (by decide +kernel)
theorem wd_61 : (Jvm.Cond.instanceMethod ({ cls := "MeaningTypes$ProfileSet", name := "<init>", desc := "(I)V" } : Jvm.MethodName)) ∈ gx_tG := gx_mem 61 (by decide +kernel) (by decide +kernel)
theorem wd_62 : (Jvm.Cond.code ({ cls := "MeaningTypes$ProfileSet", name := "<init>", desc := "(I)V" } : Jvm.MethodName) prog_3_method_1_code (2 : Nat) (Option.none : Option Jvm.ClassFile.FieldType)) ∈ gx_tG := gx_mem 62 (by decide +kernel) (by decide +kernel)
theorem wd_63 : (Jvm.Cond.methodLink "MeaningTypes$ProfileSet" (1 : Nat) ({ cls := "java/lang/Object", name := "<init>", desc := "()V" } : Jvm.MethodName)) ∈ gx_tG := gx_mem 63 (by decide +kernel) (by decide +kernel)
theorem wd_64 : (Jvm.Cond.methodLink "MeaningTypes$ProfileSet" (7 : Nat) ({ cls := "MeaningTypes$ProfileSet", name := "wordsFor", desc := "(I)I" } : Jvm.MethodName)) ∈ gx_tG := gx_mem 64 (by decide +kernel) (by decide +kernel)
theorem wd_65 : (Jvm.Cond.static ({ cls := "MeaningTypes$ProfileSet", name := "wordsFor", desc := "(I)I" } : Jvm.MethodName)) ∈ gx_tG := gx_mem 65 (by decide +kernel) (by decide +kernel)
theorem wd_66 : (Jvm.Cond.code ({ cls := "MeaningTypes$ProfileSet", name := "wordsFor", desc := "(I)I" } : Jvm.MethodName) prog_3_method_2_code (1 : Nat) (Option.some Jvm.ClassFile.FieldType.int)) ∈ gx_tG := gx_mem 66 (by decide +kernel) (by decide +kernel)
theorem wd_67 : (Jvm.Cond.fieldLink "MeaningTypes$ProfileSet" (13 : Nat) "MeaningTypes$ProfileSet" "words" "[J") ∈ gx_tG := gx_mem 67 (by decide +kernel) (by decide +kernel)
theorem wd_68 : (Jvm.Cond.fieldLink "MeaningTypes$ProfileSet" (23 : Nat) "MeaningTypes$ProfileSet" "usedWords" "I") ∈ gx_tG := gx_mem 68 (by decide +kernel) (by decide +kernel)
theorem wd_69 : (Jvm.Cond.fieldLink "MeaningTypes$ProfileSet" (27 : Nat) "MeaningTypes$ProfileSet" "end" "I") ∈ gx_tG := gx_mem 69 (by decide +kernel) (by decide +kernel)
theorem wd_79 : (Jvm.Cond.arrayClass Jvm.ClassFile.FieldType.long) ∈ gx_tG := gx_mem 79 (by decide +kernel) (by decide +kernel)
theorem wd_80 : (Jvm.Cond.methodLink "MeaningTypes$Meanings" (40 : Nat) ({ cls := "MeaningTypes$ProfileSet", name := "restart", desc := "(I)V" } : Jvm.MethodName)) ∈ gx_tG := gx_mem 80 (by decide +kernel) (by decide +kernel)
theorem wd_81 : (Jvm.Cond.instanceMethod ({ cls := "MeaningTypes$ProfileSet", name := "restart", desc := "(I)V" } : Jvm.MethodName)) ∈ gx_tG := gx_mem 81 (by decide +kernel) (by decide +kernel)
theorem wd_82 : (Jvm.Cond.selects "MeaningTypes$ProfileSet" ({ cls := "MeaningTypes$ProfileSet", name := "restart", desc := "(I)V" } : Jvm.MethodName) ({ cls := "MeaningTypes$ProfileSet", name := "restart", desc := "(I)V" } : Jvm.MethodName)) ∈ gx_tG := gx_mem 82 (by decide +kernel) (by decide +kernel)
theorem wd_83 : (Jvm.Cond.code ({ cls := "MeaningTypes$ProfileSet", name := "restart", desc := "(I)V" } : Jvm.MethodName) prog_3_method_3_code (3 : Nat) (Option.none : Option Jvm.ClassFile.FieldType)) ∈ gx_tG := gx_mem 83 (by decide +kernel) (by decide +kernel)
theorem wd_84 : (Jvm.Cond.methodLink "MeaningTypes$ProfileSet" (17 : Nat) ({ cls := "java/lang/Math", name := "min", desc := "(II)I" } : Jvm.MethodName)) ∈ gx_tG := gx_mem 84 (by decide +kernel) (by decide +kernel)
theorem wd_85 : (Jvm.Cond.static ({ cls := "java/lang/Math", name := "min", desc := "(II)I" } : Jvm.MethodName)) ∈ gx_tG := gx_mem 85 (by decide +kernel) (by decide +kernel)
theorem wd_86 : (Jvm.Cond.code ({ cls := "java/lang/Math", name := "min", desc := "(II)I" } : Jvm.MethodName) prog_10_method_69_code (2 : Nat) (Option.some Jvm.ClassFile.FieldType.int)) ∈ gx_tG := gx_mem 86 (by decide +kernel) (by decide +kernel)
theorem wd_87 : (Jvm.Cond.methodLink "MeaningTypes$Meanings" (43 : Nat) ({ cls := "MeaningTypes$ProfileSet", name := "add", desc := "(I)V" } : Jvm.MethodName)) ∈ gx_tG := gx_mem 87 (by decide +kernel) (by decide +kernel)
theorem wd_88 : (Jvm.Cond.instanceMethod ({ cls := "MeaningTypes$ProfileSet", name := "add", desc := "(I)V" } : Jvm.MethodName)) ∈ gx_tG := gx_mem 88 (by decide +kernel) (by decide +kernel)
theorem wd_89 : (Jvm.Cond.selects "MeaningTypes$ProfileSet" ({ cls := "MeaningTypes$ProfileSet", name := "add", desc := "(I)V" } : Jvm.MethodName) ({ cls := "MeaningTypes$ProfileSet", name := "add", desc := "(I)V" } : Jvm.MethodName)) ∈ gx_tG := gx_mem 89 (by decide +kernel) (by decide +kernel)
theorem wd_90 : (Jvm.Cond.code ({ cls := "MeaningTypes$ProfileSet", name := "add", desc := "(I)V" } : Jvm.MethodName) prog_3_method_4_code (2 : Nat) (Option.none : Option Jvm.ClassFile.FieldType)) ∈ gx_tG := gx_mem 90 (by decide +kernel) (by decide +kernel)
theorem wd_91 : (Jvm.Cond.fieldLink "MeaningTypes$Meanings" (12 : Nat) "MeaningTypes$Meanings" "table" "LMeaningTypes$TypeTable;") ∈ gx_tG := gx_mem 91 (by decide +kernel) (by decide +kernel)
theorem wd_94 : (Jvm.Cond.fieldLink "MeaningTypes$Meanings" (20 : Nat) "MeaningTypes$Meanings" "rows" "[LMeaningTypes$ProfileSet;") ∈ gx_tG := gx_mem 94 (by decide +kernel) (by decide +kernel)
theorem wd_95 : (Jvm.Cond.fieldLink "MeaningTypes$Meanings" (27 : Nat) "MeaningTypes$Meanings" "starts" "LMeaningTypes$ProfileSet;") ∈ gx_tG := gx_mem 95 (by decide +kernel) (by decide +kernel)
theorem wd_96 : (Jvm.Cond.fieldLink "MeaningTypes$Meanings" (31 : Nat) "MeaningTypes$Meanings" "ends" "LMeaningTypes$ProfileSet;") ∈ gx_tG := gx_mem 96 (by decide +kernel) (by decide +kernel)
theorem wd_97 : (Jvm.Cond.fieldLink "MeaningTypes$Meanings" (34 : Nat) "MeaningTypes$Meanings" "crossed" "LMeaningTypes$ProfileSet;") ∈ gx_tG := gx_mem 97 (by decide +kernel) (by decide +kernel)
theorem wd_98 : (Jvm.Cond.fieldLink "MeaningTypes$Meanings" (37 : Nat) "MeaningTypes$Meanings" "broken" "LMeaningTypes$ProfileSet;") ∈ gx_tG := gx_mem 98 (by decide +kernel) (by decide +kernel)
theorem wd_112 : (Jvm.Cond.classLink "MeaningTypes" (16 : Nat) "MeaningTypes$ValueTable") ∈ gx_tG := gx_mem 112 (by decide +kernel) (by decide +kernel)
theorem wd_113 : (Jvm.Cond.instantiable "MeaningTypes$ValueTable" (8 : Nat)) ∈ gx_tG := gx_mem 113 (by decide +kernel) (by decide +kernel)
theorem wd_114 : (Jvm.Cond.methodLink "MeaningTypes" (18 : Nat) ({ cls := "MeaningTypes$ValueTable", name := "<init>", desc := "()V" } : Jvm.MethodName)) ∈ gx_tG := gx_mem 114 (by decide +kernel) (by decide +kernel)
theorem wd_115 : (Jvm.Cond.instanceMethod ({ cls := "MeaningTypes$ValueTable", name := "<init>", desc := "()V" } : Jvm.MethodName)) ∈ gx_tG := gx_mem 115 (by decide +kernel) (by decide +kernel)
theorem wd_116 : (Jvm.Cond.code ({ cls := "MeaningTypes$ValueTable", name := "<init>", desc := "()V" } : Jvm.MethodName) prog_5_method_1_code (2 : Nat) (Option.none : Option Jvm.ClassFile.FieldType)) ∈ gx_tG := gx_mem 116 (by decide +kernel) (by decide +kernel)
theorem wd_117 : (Jvm.Cond.methodLink "MeaningTypes$ValueTable" (3 : Nat) ({ cls := "java/lang/Object", name := "<init>", desc := "()V" } : Jvm.MethodName)) ∈ gx_tG := gx_mem 117 (by decide +kernel) (by decide +kernel)
theorem wd_118 : (Jvm.Cond.classLink "MeaningTypes$ValueTable" (24 : Nat) "MeaningTypes$ProfileSet") ∈ gx_tG := gx_mem 118 (by decide +kernel) (by decide +kernel)
theorem wd_119 : (Jvm.Cond.methodLink "MeaningTypes$ValueTable" (26 : Nat) ({ cls := "MeaningTypes$ProfileSet", name := "<init>", desc := "(I)V" } : Jvm.MethodName)) ∈ gx_tG := gx_mem 119 (by decide +kernel) (by decide +kernel)
theorem wd_120 : (Jvm.Cond.fieldLink "MeaningTypes$ValueTable" (9 : Nat) "MeaningTypes$ValueTable" "kind" "[I") ∈ gx_tG := gx_mem 120 (by decide +kernel) (by decide +kernel)
theorem wd_121 : (Jvm.Cond.fieldLink "MeaningTypes$ValueTable" (15 : Nat) "MeaningTypes$ValueTable" "first" "[I") ∈ gx_tG := gx_mem 121 (by decide +kernel) (by decide +kernel)
theorem wd_122 : (Jvm.Cond.fieldLink "MeaningTypes$ValueTable" (18 : Nat) "MeaningTypes$ValueTable" "second" "[I") ∈ gx_tG := gx_mem 122 (by decide +kernel) (by decide +kernel)
theorem wd_123 : (Jvm.Cond.fieldLink "MeaningTypes$ValueTable" (21 : Nat) "MeaningTypes$ValueTable" "leaves" "[I") ∈ gx_tG := gx_mem 123 (by decide +kernel) (by decide +kernel)
theorem wd_125 : (Jvm.Cond.fieldLink "MeaningTypes$ValueTable" (40 : Nat) "MeaningTypes$ValueTable" "count" "I") ∈ gx_tG := gx_mem 125 (by decide +kernel) (by decide +kernel)
theorem wd_127 : (Jvm.Cond.fieldLink "MeaningTypes$ValueTable" (29 : Nat) "MeaningTypes$ValueTable" "whole" "LMeaningTypes$ProfileSet;") ∈ gx_tG := gx_mem 127 (by decide +kernel) (by decide +kernel)
theorem wd_128 : (Jvm.Cond.fieldLink "MeaningTypes$ValueTable" (33 : Nat) "MeaningTypes$ValueTable" "firsts" "[LMeaningTypes$ProfileSet;") ∈ gx_tG := gx_mem 128 (by decide +kernel) (by decide +kernel)
theorem wd_129 : (Jvm.Cond.fieldLink "MeaningTypes$ValueTable" (37 : Nat) "MeaningTypes$ValueTable" "seconds" "[LMeaningTypes$ProfileSet;") ∈ gx_tG := gx_mem 129 (by decide +kernel) (by decide +kernel)
theorem wd_147 : (Jvm.Cond.fieldLink "MeaningTypes" (12 : Nat) "MeaningTypes" "meanings" "LMeaningTypes$Meanings;") ∈ gx_tG := gx_mem 147 (by decide +kernel) (by decide +kernel)
theorem wd_148 : (Jvm.Cond.fieldLink "MeaningTypes" (19 : Nat) "MeaningTypes" "values" "LMeaningTypes$ValueTable;") ∈ gx_tG := gx_mem 148 (by decide +kernel) (by decide +kernel)
theorem wd_154 : (Jvm.Cond.methodLink "MeaningTypesLaw" (13 : Nat) ({ cls := "MeaningTypes", name := "constants", desc := "(I)I" } : Jvm.MethodName)) ∈ gx_tG := gx_mem 154 (by decide +kernel) (by decide +kernel)
theorem wd_155 : (Jvm.Cond.instanceMethod ({ cls := "MeaningTypes", name := "constants", desc := "(I)I" } : Jvm.MethodName)) ∈ gx_tG := gx_mem 155 (by decide +kernel) (by decide +kernel)
theorem wd_156 : (Jvm.Cond.selects "MeaningTypes" ({ cls := "MeaningTypes", name := "constants", desc := "(I)I" } : Jvm.MethodName) ({ cls := "MeaningTypes", name := "constants", desc := "(I)I" } : Jvm.MethodName)) ∈ gx_tG := gx_mem 156 (by decide +kernel) (by decide +kernel)
theorem wd_157 : (Jvm.Cond.code ({ cls := "MeaningTypes", name := "constants", desc := "(I)I" } : Jvm.MethodName) prog_1_method_2_code (2 : Nat) (Option.some Jvm.ClassFile.FieldType.int)) ∈ gx_tG := gx_mem 157 (by decide +kernel) (by decide +kernel)
theorem wd_158 : (Jvm.Cond.methodLink "MeaningTypes" (23 : Nat) ({ cls := "MeaningTypes", name := "isFull", desc := "()Z" } : Jvm.MethodName)) ∈ gx_tG := gx_mem 158 (by decide +kernel) (by decide +kernel)
theorem wd_160 : (Jvm.Cond.instanceMethod ({ cls := "MeaningTypes", name := "isFull", desc := "()Z" } : Jvm.MethodName)) ∈ gx_tG := gx_mem 160 (by decide +kernel) (by decide +kernel)
theorem wd_161 : (Jvm.Cond.code ({ cls := "MeaningTypes", name := "isFull", desc := "()Z" } : Jvm.MethodName) prog_1_method_22_code (1 : Nat) (Option.some Jvm.ClassFile.FieldType.boolean)) ∈ gx_tG := gx_mem 161 (by decide +kernel) (by decide +kernel)
theorem wd_162 : (Jvm.Cond.methodLink "MeaningTypes" (27 : Nat) ({ cls := "MeaningTypes$Meanings", name := "add", desc := "(III)I" } : Jvm.MethodName)) ∈ gx_tG := gx_mem 162 (by decide +kernel) (by decide +kernel)
theorem wd_163 : (Jvm.Cond.instanceMethod ({ cls := "MeaningTypes$Meanings", name := "add", desc := "(III)I" } : Jvm.MethodName)) ∈ gx_tG := gx_mem 163 (by decide +kernel) (by decide +kernel)
theorem wd_164 : (Jvm.Cond.selects "MeaningTypes$Meanings" ({ cls := "MeaningTypes$Meanings", name := "add", desc := "(III)I" } : Jvm.MethodName) ({ cls := "MeaningTypes$Meanings", name := "add", desc := "(III)I" } : Jvm.MethodName)) ∈ gx_tG := gx_mem 164 (by decide +kernel) (by decide +kernel)
theorem wd_165 : (Jvm.Cond.code ({ cls := "MeaningTypes$Meanings", name := "add", desc := "(III)I" } : Jvm.MethodName) prog_2_method_2_code (8 : Nat) (Option.some Jvm.ClassFile.FieldType.int)) ∈ gx_tG := gx_mem 165 (by decide +kernel) (by decide +kernel)
theorem wd_166 : (Jvm.Cond.methodLink "MeaningTypes$Meanings" (46 : Nat) ({ cls := "MeaningTypes$TypeTable", name := "add", desc := "(III)I" } : Jvm.MethodName)) ∈ gx_tG := gx_mem 166 (by decide +kernel) (by decide +kernel)
theorem wd_167 : (Jvm.Cond.instanceMethod ({ cls := "MeaningTypes$TypeTable", name := "add", desc := "(III)I" } : Jvm.MethodName)) ∈ gx_tG := gx_mem 167 (by decide +kernel) (by decide +kernel)
theorem wd_168 : (Jvm.Cond.selects "MeaningTypes$TypeTable" ({ cls := "MeaningTypes$TypeTable", name := "add", desc := "(III)I" } : Jvm.MethodName) ({ cls := "MeaningTypes$TypeTable", name := "add", desc := "(III)I" } : Jvm.MethodName)) ∈ gx_tG := gx_mem 168 (by decide +kernel) (by decide +kernel)
theorem wd_169 : (Jvm.Cond.code ({ cls := "MeaningTypes$TypeTable", name := "add", desc := "(III)I" } : Jvm.MethodName) prog_4_method_4_code (5 : Nat) (Option.some Jvm.ClassFile.FieldType.int)) ∈ gx_tG := gx_mem 169 (by decide +kernel) (by decide +kernel)
theorem wd_170 : (Jvm.Cond.methodLink "MeaningTypes$TypeTable" (38 : Nat) ({ cls := "MeaningTypes$TypeTable", name := "depthOf", desc := "(III)I" } : Jvm.MethodName)) ∈ gx_tG := gx_mem 170 (by decide +kernel) (by decide +kernel)
theorem wd_171 : (Jvm.Cond.instanceMethod ({ cls := "MeaningTypes$TypeTable", name := "depthOf", desc := "(III)I" } : Jvm.MethodName)) ∈ gx_tG := gx_mem 171 (by decide +kernel) (by decide +kernel)
theorem wd_172 : (Jvm.Cond.selects "MeaningTypes$TypeTable" ({ cls := "MeaningTypes$TypeTable", name := "depthOf", desc := "(III)I" } : Jvm.MethodName) ({ cls := "MeaningTypes$TypeTable", name := "depthOf", desc := "(III)I" } : Jvm.MethodName)) ∈ gx_tG := gx_mem 172 (by decide +kernel) (by decide +kernel)
theorem wd_173 : (Jvm.Cond.code ({ cls := "MeaningTypes$TypeTable", name := "depthOf", desc := "(III)I" } : Jvm.MethodName) prog_4_method_2_code (4 : Nat) (Option.some Jvm.ClassFile.FieldType.int)) ∈ gx_tG := gx_mem 173 (by decide +kernel) (by decide +kernel)
theorem wd_174 : (Jvm.Cond.methodLink "MeaningTypes$TypeTable" (28 : Nat) ({ cls := "java/lang/Math", name := "max", desc := "(II)I" } : Jvm.MethodName)) ∈ gx_tG := gx_mem 174 (by decide +kernel) (by decide +kernel)
theorem wd_175 : (Jvm.Cond.static ({ cls := "java/lang/Math", name := "max", desc := "(II)I" } : Jvm.MethodName)) ∈ gx_tG := gx_mem 175 (by decide +kernel) (by decide +kernel)
theorem wd_176 : (Jvm.Cond.code ({ cls := "java/lang/Math", name := "max", desc := "(II)I" } : Jvm.MethodName) prog_10_method_65_code (2 : Nat) (Option.some Jvm.ClassFile.FieldType.int)) ∈ gx_tG := gx_mem 176 (by decide +kernel) (by decide +kernel)
theorem wd_177 : (Jvm.Cond.methodLink "MeaningTypes$TypeTable" (42 : Nat) ({ cls := "MeaningTypes$TypeTable", name := "makesInterface", desc := "(III)Z" } : Jvm.MethodName)) ∈ gx_tG := gx_mem 177 (by decide +kernel) (by decide +kernel)
theorem wd_179 : (Jvm.Cond.instanceMethod ({ cls := "MeaningTypes$TypeTable", name := "makesInterface", desc := "(III)Z" } : Jvm.MethodName)) ∈ gx_tG := gx_mem 179 (by decide +kernel) (by decide +kernel)
theorem wd_180 : (Jvm.Cond.code ({ cls := "MeaningTypes$TypeTable", name := "makesInterface", desc := "(III)Z" } : Jvm.MethodName) prog_4_method_3_code (4 : Nat) (Option.some Jvm.ClassFile.FieldType.boolean)) ∈ gx_tG := gx_mem 180 (by decide +kernel) (by decide +kernel)
theorem wd_181 : (Jvm.Cond.methodLink "MeaningTypes$Meanings" (53 : Nat) ({ cls := "MeaningTypes$TypeTable", name := "profileOfConstant", desc := "(I)I" } : Jvm.MethodName)) ∈ gx_tG := gx_mem 181 (by decide +kernel) (by decide +kernel)
theorem wd_182 : (Jvm.Cond.instanceMethod ({ cls := "MeaningTypes$TypeTable", name := "profileOfConstant", desc := "(I)I" } : Jvm.MethodName)) ∈ gx_tG := gx_mem 182 (by decide +kernel) (by decide +kernel)
theorem wd_183 : (Jvm.Cond.selects "MeaningTypes$TypeTable" ({ cls := "MeaningTypes$TypeTable", name := "profileOfConstant", desc := "(I)I" } : Jvm.MethodName) ({ cls := "MeaningTypes$TypeTable", name := "profileOfConstant", desc := "(I)I" } : Jvm.MethodName)) ∈ gx_tG := gx_mem 183 (by decide +kernel) (by decide +kernel)
theorem wd_184 : (Jvm.Cond.code ({ cls := "MeaningTypes$TypeTable", name := "profileOfConstant", desc := "(I)I" } : Jvm.MethodName) prog_4_method_8_code (4 : Nat) (Option.some Jvm.ClassFile.FieldType.int)) ∈ gx_tG := gx_mem 184 (by decide +kernel) (by decide +kernel)
theorem wd_186 : (Jvm.Cond.static ({ cls := "MeaningTypes", name := "holds", desc := "(II)Z" } : Jvm.MethodName)) ∈ gx_tG := gx_mem 186 (by decide +kernel) (by decide +kernel)
theorem wd_187 : (Jvm.Cond.code ({ cls := "MeaningTypes", name := "holds", desc := "(II)Z" } : Jvm.MethodName) prog_1_method_25_code (2 : Nat) (Option.some Jvm.ClassFile.FieldType.boolean)) ∈ gx_tG := gx_mem 187 (by decide +kernel) (by decide +kernel)
theorem wd_188 : (Jvm.Cond.methodLink "MeaningTypes$TypeTable" (53 : Nat) ({ cls := "MeaningTypes$TypeTable", name := "profileFrom", desc := "(I)I" } : Jvm.MethodName)) ∈ gx_tG := gx_mem 188 (by decide +kernel) (by decide +kernel)
theorem wd_189 : (Jvm.Cond.instanceMethod ({ cls := "MeaningTypes$TypeTable", name := "profileFrom", desc := "(I)I" } : Jvm.MethodName)) ∈ gx_tG := gx_mem 189 (by decide +kernel) (by decide +kernel)
theorem wd_190 : (Jvm.Cond.selects "MeaningTypes$TypeTable" ({ cls := "MeaningTypes$TypeTable", name := "profileFrom", desc := "(I)I" } : Jvm.MethodName) ({ cls := "MeaningTypes$TypeTable", name := "profileFrom", desc := "(I)I" } : Jvm.MethodName)) ∈ gx_tG := gx_mem 190 (by decide +kernel) (by decide +kernel)
theorem wd_191 : (Jvm.Cond.code ({ cls := "MeaningTypes$TypeTable", name := "profileFrom", desc := "(I)I" } : Jvm.MethodName) prog_4_method_9_code (4 : Nat) (Option.some Jvm.ClassFile.FieldType.int)) ∈ gx_tG := gx_mem 191 (by decide +kernel) (by decide +kernel)
theorem wd_192 : (Jvm.Cond.methodLink "MeaningTypes$TypeTable" (57 : Nat) ({ cls := "MeaningTypes$TypeTable", name := "followsFromParts", desc := "(II)Z" } : Jvm.MethodName)) ∈ gx_tG := gx_mem 192 (by decide +kernel) (by decide +kernel)
theorem wd_194 : (Jvm.Cond.instanceMethod ({ cls := "MeaningTypes$TypeTable", name := "followsFromParts", desc := "(II)Z" } : Jvm.MethodName)) ∈ gx_tG := gx_mem 194 (by decide +kernel) (by decide +kernel)
theorem wd_195 : (Jvm.Cond.code ({ cls := "MeaningTypes$TypeTable", name := "followsFromParts", desc := "(II)Z" } : Jvm.MethodName) prog_4_method_10_code (3 : Nat) (Option.some Jvm.ClassFile.FieldType.boolean)) ∈ gx_tG := gx_mem 195 (by decide +kernel) (by decide +kernel)
theorem wd_196 : (Jvm.Cond.methodLink "MeaningTypes$Meanings" (57 : Nat) ({ cls := "MeaningTypes$Meanings", name := "addPairs", desc := "(LMeaningTypes$ProfileSet;LMeaningTypes$ProfileSet;LMeaningTypes$ProfileSet;)V" } : Jvm.MethodName)) ∈ gx_tG := gx_mem 196 (by decide +kernel) (by decide +kernel)
theorem wd_197 : (Jvm.Cond.instanceMethod ({ cls := "MeaningTypes$Meanings", name := "addPairs", desc := "(LMeaningTypes$ProfileSet;LMeaningTypes$ProfileSet;LMeaningTypes$ProfileSet;)V" } : Jvm.MethodName)) ∈ gx_tG := gx_mem 197 (by decide +kernel) (by decide +kernel)
theorem wd_198 : (Jvm.Cond.selects "MeaningTypes$Meanings" ({ cls := "MeaningTypes$Meanings", name := "addPairs", desc := "(LMeaningTypes$ProfileSet;LMeaningTypes$ProfileSet;LMeaningTypes$ProfileSet;)V" } : Jvm.MethodName) ({ cls := "MeaningTypes$Meanings", name := "addPairs", desc := "(LMeaningTypes$ProfileSet;LMeaningTypes$ProfileSet;LMeaningTypes$ProfileSet;)V" } : Jvm.MethodName)) ∈ gx_tG := gx_mem 198 (by decide +kernel) (by decide +kernel)
theorem wd_199 : (Jvm.Cond.code ({ cls := "MeaningTypes$Meanings", name := "addPairs", desc := "(LMeaningTypes$ProfileSet;LMeaningTypes$ProfileSet;LMeaningTypes$ProfileSet;)V" } : Jvm.MethodName) prog_2_method_3_code (5 : Nat) (Option.none : Option Jvm.ClassFile.FieldType)) ∈ gx_tG := gx_mem 199 (by decide +kernel) (by decide +kernel)
theorem wd_200 : (Jvm.Cond.methodLink "MeaningTypes$Meanings" (65 : Nat) ({ cls := "MeaningTypes$ProfileSet", name := "nextFrom", desc := "(I)I" } : Jvm.MethodName)) ∈ gx_tG := gx_mem 200 (by decide +kernel) (by decide +kernel)
theorem wd_201 : (Jvm.Cond.instanceMethod ({ cls := "MeaningTypes$ProfileSet", name := "nextFrom", desc := "(I)I" } : Jvm.MethodName)) ∈ gx_tG := gx_mem 201 (by decide +kernel) (by decide +kernel)
theorem wd_202 : (Jvm.Cond.selects "MeaningTypes$ProfileSet" ({ cls := "MeaningTypes$ProfileSet", name := "nextFrom", desc := "(I)I" } : Jvm.MethodName) ({ cls := "MeaningTypes$ProfileSet", name := "nextFrom", desc := "(I)I" } : Jvm.MethodName)) ∈ gx_tG := gx_mem 202 (by decide +kernel) (by decide +kernel)
theorem wd_203 : (Jvm.Cond.code ({ cls := "MeaningTypes$ProfileSet", name := "nextFrom", desc := "(I)I" } : Jvm.MethodName) prog_3_method_6_code (6 : Nat) (Option.some Jvm.ClassFile.FieldType.int)) ∈ gx_tG := gx_mem 203 (by decide +kernel) (by decide +kernel)
theorem wd_204 : (Jvm.Cond.constantLong "MeaningTypes$ProfileSet" (30 : Nat) (-1 : Int64)) ∈ gx_tG := gx_mem 204 (by decide +kernel) (by decide +kernel)
theorem wd_205 : (Jvm.Cond.methodLink "MeaningTypes$ProfileSet" (32 : Nat) ({ cls := "java/lang/Long", name := "bitCount", desc := "(J)I" } : Jvm.MethodName)) ∈ gx_tG := gx_mem 205 (by decide +kernel) (by decide +kernel)
theorem wd_206 : (Jvm.Cond.static ({ cls := "java/lang/Long", name := "bitCount", desc := "(J)I" } : Jvm.MethodName)) ∈ gx_tG := gx_mem 206 (by decide +kernel) (by decide +kernel)
theorem wd_207 : (Jvm.Cond.code ({ cls := "java/lang/Long", name := "bitCount", desc := "(J)I" } : Jvm.MethodName) prog_9_method_50_code (2 : Nat) (Option.some Jvm.ClassFile.FieldType.int)) ∈ gx_tG := gx_mem 207 (by decide +kernel) (by decide +kernel)
theorem wd_208 : (Jvm.Cond.constantLong "java/lang/Long" (314 : Nat) (6148914691236517205 : Int64)) ∈ gx_tG := gx_mem 208 (by decide +kernel) (by decide +kernel)
theorem wd_209 : (Jvm.Cond.constantLong "java/lang/Long" (316 : Nat) (3689348814741910323 : Int64)) ∈ gx_tG := gx_mem 209 (by decide +kernel) (by decide +kernel)
theorem wd_210 : (Jvm.Cond.constantLong "java/lang/Long" (318 : Nat) (1085102592571150095 : Int64)) ∈ gx_tG := gx_mem 210 (by decide +kernel) (by decide +kernel)
theorem wd_211 : (Jvm.Cond.methodLink "MeaningTypes$Meanings" (75 : Nat) ({ cls := "MeaningTypes$TypeTable", name := "partHolds", desc := "(I[II)I" } : Jvm.MethodName)) ∈ gx_tG := gx_mem 211 (by decide +kernel) (by decide +kernel)
theorem wd_212 : (Jvm.Cond.instanceMethod ({ cls := "MeaningTypes$TypeTable", name := "partHolds", desc := "(I[II)I" } : Jvm.MethodName)) ∈ gx_tG := gx_mem 212 (by decide +kernel) (by decide +kernel)
theorem wd_213 : (Jvm.Cond.selects "MeaningTypes$TypeTable" ({ cls := "MeaningTypes$TypeTable", name := "partHolds", desc := "(I[II)I" } : Jvm.MethodName) ({ cls := "MeaningTypes$TypeTable", name := "partHolds", desc := "(I[II)I" } : Jvm.MethodName)) ∈ gx_tG := gx_mem 213 (by decide +kernel) (by decide +kernel)
theorem wd_214 : (Jvm.Cond.code ({ cls := "MeaningTypes$TypeTable", name := "partHolds", desc := "(I[II)I" } : Jvm.MethodName) prog_4_method_7_code (6 : Nat) (Option.some Jvm.ClassFile.FieldType.int)) ∈ gx_tG := gx_mem 214 (by decide +kernel) (by decide +kernel)
theorem wd_215 : (Jvm.Cond.methodLink "MeaningTypes$Meanings" (82 : Nat) ({ cls := "MeaningTypes$Meanings", name := "crossStartsWithEnds", desc := "()V" } : Jvm.MethodName)) ∈ gx_tG := gx_mem 215 (by decide +kernel) (by decide +kernel)
theorem wd_217 : (Jvm.Cond.instanceMethod ({ cls := "MeaningTypes$Meanings", name := "crossStartsWithEnds", desc := "()V" } : Jvm.MethodName)) ∈ gx_tG := gx_mem 217 (by decide +kernel) (by decide +kernel)
theorem wd_218 : (Jvm.Cond.code ({ cls := "MeaningTypes$Meanings", name := "crossStartsWithEnds", desc := "()V" } : Jvm.MethodName) prog_2_method_8_code (3 : Nat) (Option.none : Option Jvm.ClassFile.FieldType)) ∈ gx_tG := gx_mem 218 (by decide +kernel) (by decide +kernel)
theorem wd_219 : (Jvm.Cond.methodLink "MeaningTypes$Meanings" (85 : Nat) ({ cls := "MeaningTypes$TypeTable", name := "profileFrom", desc := "(I)I" } : Jvm.MethodName)) ∈ gx_tG := gx_mem 219 (by decide +kernel) (by decide +kernel)
theorem wd_220 : (Jvm.Cond.methodLink "MeaningTypes$Meanings" (61 : Nat) ({ cls := "MeaningTypes$Meanings", name := "addFunctions", desc := "(LMeaningTypes$ProfileSet;LMeaningTypes$ProfileSet;)V" } : Jvm.MethodName)) ∈ gx_tG := gx_mem 220 (by decide +kernel) (by decide +kernel)
theorem wd_222 : (Jvm.Cond.instanceMethod ({ cls := "MeaningTypes$Meanings", name := "addFunctions", desc := "(LMeaningTypes$ProfileSet;LMeaningTypes$ProfileSet;)V" } : Jvm.MethodName)) ∈ gx_tG := gx_mem 222 (by decide +kernel) (by decide +kernel)
theorem wd_223 : (Jvm.Cond.code ({ cls := "MeaningTypes$Meanings", name := "addFunctions", desc := "(LMeaningTypes$ProfileSet;LMeaningTypes$ProfileSet;)V" } : Jvm.MethodName) prog_2_method_4_code (5 : Nat) (Option.none : Option Jvm.ClassFile.FieldType)) ∈ gx_tG := gx_mem 223 (by decide +kernel) (by decide +kernel)
theorem wd_224 : (Jvm.Cond.methodLink "MeaningTypes$Meanings" (88 : Nat) ({ cls := "MeaningTypes$TypeTable", name := "allOfKind", desc := "(I)I" } : Jvm.MethodName)) ∈ gx_tG := gx_mem 224 (by decide +kernel) (by decide +kernel)
theorem wd_225 : (Jvm.Cond.instanceMethod ({ cls := "MeaningTypes$TypeTable", name := "allOfKind", desc := "(I)I" } : Jvm.MethodName)) ∈ gx_tG := gx_mem 225 (by decide +kernel) (by decide +kernel)
theorem wd_226 : (Jvm.Cond.selects "MeaningTypes$TypeTable" ({ cls := "MeaningTypes$TypeTable", name := "allOfKind", desc := "(I)I" } : Jvm.MethodName) ({ cls := "MeaningTypes$TypeTable", name := "allOfKind", desc := "(I)I" } : Jvm.MethodName)) ∈ gx_tG := gx_mem 226 (by decide +kernel) (by decide +kernel)
theorem wd_227 : (Jvm.Cond.code ({ cls := "MeaningTypes$TypeTable", name := "allOfKind", desc := "(I)I" } : Jvm.MethodName) prog_4_method_6_code (4 : Nat) (Option.some Jvm.ClassFile.FieldType.int)) ∈ gx_tG := gx_mem 227 (by decide +kernel) (by decide +kernel)
theorem wd_228 : (Jvm.Cond.methodLink "MeaningTypes$Meanings" (91 : Nat) ({ cls := "MeaningTypes$Meanings", name := "findStepsThatBreak", desc := "(ILMeaningTypes$ProfileSet;)V" } : Jvm.MethodName)) ∈ gx_tG := gx_mem 228 (by decide +kernel) (by decide +kernel)
theorem wd_230 : (Jvm.Cond.instanceMethod ({ cls := "MeaningTypes$Meanings", name := "findStepsThatBreak", desc := "(ILMeaningTypes$ProfileSet;)V" } : Jvm.MethodName)) ∈ gx_tG := gx_mem 230 (by decide +kernel) (by decide +kernel)
theorem wd_231 : (Jvm.Cond.code ({ cls := "MeaningTypes$Meanings", name := "findStepsThatBreak", desc := "(ILMeaningTypes$ProfileSet;)V" } : Jvm.MethodName) prog_2_method_5_code (4 : Nat) (Option.none : Option Jvm.ClassFile.FieldType)) ∈ gx_tG := gx_mem 231 (by decide +kernel) (by decide +kernel)
theorem wd_232 : (Jvm.Cond.methodLink "MeaningTypes$Meanings" (95 : Nat) ({ cls := "MeaningTypes$Meanings", name := "uniteSteps", desc := "()V" } : Jvm.MethodName)) ∈ gx_tG := gx_mem 232 (by decide +kernel) (by decide +kernel)
theorem wd_234 : (Jvm.Cond.instanceMethod ({ cls := "MeaningTypes$Meanings", name := "uniteSteps", desc := "()V" } : Jvm.MethodName)) ∈ gx_tG := gx_mem 234 (by decide +kernel) (by decide +kernel)
theorem wd_235 : (Jvm.Cond.code ({ cls := "MeaningTypes$Meanings", name := "uniteSteps", desc := "()V" } : Jvm.MethodName) prog_2_method_6_code (2 : Nat) (Option.none : Option Jvm.ClassFile.FieldType)) ∈ gx_tG := gx_mem 235 (by decide +kernel) (by decide +kernel)
theorem wd_236 : (Jvm.Cond.methodLink "MeaningTypes$Meanings" (98 : Nat) ({ cls := "MeaningTypes$ProfileSet", name := "has", desc := "(I)Z" } : Jvm.MethodName)) ∈ gx_tG := gx_mem 236 (by decide +kernel) (by decide +kernel)
theorem wd_237 : (Jvm.Cond.instanceMethod ({ cls := "MeaningTypes$ProfileSet", name := "has", desc := "(I)Z" } : Jvm.MethodName)) ∈ gx_tG := gx_mem 237 (by decide +kernel) (by decide +kernel)
theorem wd_238 : (Jvm.Cond.selects "MeaningTypes$ProfileSet" ({ cls := "MeaningTypes$ProfileSet", name := "has", desc := "(I)Z" } : Jvm.MethodName) ({ cls := "MeaningTypes$ProfileSet", name := "has", desc := "(I)Z" } : Jvm.MethodName)) ∈ gx_tG := gx_mem 238 (by decide +kernel) (by decide +kernel)
theorem wd_239 : (Jvm.Cond.code ({ cls := "MeaningTypes$ProfileSet", name := "has", desc := "(I)Z" } : Jvm.MethodName) prog_3_method_5_code (2 : Nat) (Option.some Jvm.ClassFile.FieldType.boolean)) ∈ gx_tG := gx_mem 239 (by decide +kernel) (by decide +kernel)
theorem wd_240 : (Jvm.Cond.methodLink "MeaningTypes$Meanings" (102 : Nat) ({ cls := "MeaningTypes$Meanings", name := "addStep", desc := "(I)V" } : Jvm.MethodName)) ∈ gx_tG := gx_mem 240 (by decide +kernel) (by decide +kernel)
theorem wd_242 : (Jvm.Cond.instanceMethod ({ cls := "MeaningTypes$Meanings", name := "addStep", desc := "(I)V" } : Jvm.MethodName)) ∈ gx_tG := gx_mem 242 (by decide +kernel) (by decide +kernel)
theorem wd_243 : (Jvm.Cond.code ({ cls := "MeaningTypes$Meanings", name := "addStep", desc := "(I)V" } : Jvm.MethodName) prog_2_method_7_code (3 : Nat) (Option.none : Option Jvm.ClassFile.FieldType)) ∈ gx_tG := gx_mem 243 (by decide +kernel) (by decide +kernel)
theorem wd_244 : (Jvm.Cond.methodLink "MeaningTypesLaw" (18 : Nat) ({ cls := "MeaningTypes", name := "product", desc := "(II)I" } : Jvm.MethodName)) ∈ gx_tG := gx_mem 244 (by decide +kernel) (by decide +kernel)
theorem wd_245 : (Jvm.Cond.instanceMethod ({ cls := "MeaningTypes", name := "product", desc := "(II)I" } : Jvm.MethodName)) ∈ gx_tG := gx_mem 245 (by decide +kernel) (by decide +kernel)
theorem wd_246 : (Jvm.Cond.selects "MeaningTypes" ({ cls := "MeaningTypes", name := "product", desc := "(II)I" } : Jvm.MethodName) ({ cls := "MeaningTypes", name := "product", desc := "(II)I" } : Jvm.MethodName)) ∈ gx_tG := gx_mem 246 (by decide +kernel) (by decide +kernel)
theorem wd_247 : (Jvm.Cond.code ({ cls := "MeaningTypes", name := "product", desc := "(II)I" } : Jvm.MethodName) prog_1_method_3_code (3 : Nat) (Option.some Jvm.ClassFile.FieldType.int)) ∈ gx_tG := gx_mem 247 (by decide +kernel) (by decide +kernel)
theorem wd_248 : (Jvm.Cond.methodLink "MeaningTypes" (31 : Nat) ({ cls := "MeaningTypes", name := "makeFromParts", desc := "(III)I" } : Jvm.MethodName)) ∈ gx_tG := gx_mem 248 (by decide +kernel) (by decide +kernel)
theorem wd_250 : (Jvm.Cond.instanceMethod ({ cls := "MeaningTypes", name := "makeFromParts", desc := "(III)I" } : Jvm.MethodName)) ∈ gx_tG := gx_mem 250 (by decide +kernel) (by decide +kernel)
theorem wd_251 : (Jvm.Cond.code ({ cls := "MeaningTypes", name := "makeFromParts", desc := "(III)I" } : Jvm.MethodName) prog_1_method_23_code (4 : Nat) (Option.some Jvm.ClassFile.FieldType.int)) ∈ gx_tG := gx_mem 251 (by decide +kernel) (by decide +kernel)
theorem wd_252 : (Jvm.Cond.methodLink "MeaningTypes" (44 : Nat) ({ cls := "MeaningTypes", name := "hasType", desc := "(I)Z" } : Jvm.MethodName)) ∈ gx_tG := gx_mem 252 (by decide +kernel) (by decide +kernel)
theorem wd_254 : (Jvm.Cond.instanceMethod ({ cls := "MeaningTypes", name := "hasType", desc := "(I)Z" } : Jvm.MethodName)) ∈ gx_tG := gx_mem 254 (by decide +kernel) (by decide +kernel)
theorem wd_255 : (Jvm.Cond.code ({ cls := "MeaningTypes", name := "hasType", desc := "(I)Z" } : Jvm.MethodName) prog_1_method_21_code (2 : Nat) (Option.some Jvm.ClassFile.FieldType.boolean)) ∈ gx_tG := gx_mem 255 (by decide +kernel) (by decide +kernel)
theorem wd_256 : (Jvm.Cond.methodLink "MeaningTypes" (55 : Nat) ({ cls := "MeaningTypes$TypeTable", name := "depthOf", desc := "(III)I" } : Jvm.MethodName)) ∈ gx_tG := gx_mem 256 (by decide +kernel) (by decide +kernel)
theorem wd_257 : (Jvm.Cond.methodLink "MeaningTypesLaw" (23 : Nat) ({ cls := "MeaningTypes", name := "arrow", desc := "(II)I" } : Jvm.MethodName)) ∈ gx_tG := gx_mem 257 (by decide +kernel) (by decide +kernel)
theorem wd_258 : (Jvm.Cond.instanceMethod ({ cls := "MeaningTypes", name := "arrow", desc := "(II)I" } : Jvm.MethodName)) ∈ gx_tG := gx_mem 258 (by decide +kernel) (by decide +kernel)
theorem wd_259 : (Jvm.Cond.selects "MeaningTypes" ({ cls := "MeaningTypes", name := "arrow", desc := "(II)I" } : Jvm.MethodName) ({ cls := "MeaningTypes", name := "arrow", desc := "(II)I" } : Jvm.MethodName)) ∈ gx_tG := gx_mem 259 (by decide +kernel) (by decide +kernel)
theorem wd_260 : (Jvm.Cond.code ({ cls := "MeaningTypes", name := "arrow", desc := "(II)I" } : Jvm.MethodName) prog_1_method_4_code (3 : Nat) (Option.some Jvm.ClassFile.FieldType.int)) ∈ gx_tG := gx_mem 260 (by decide +kernel) (by decide +kernel)
theorem wd_261 : (Jvm.Cond.methodLink "MeaningTypesLaw" (27 : Nat) ({ cls := "MeaningTypes", name := "union", desc := "(II)I" } : Jvm.MethodName)) ∈ gx_tG := gx_mem 261 (by decide +kernel) (by decide +kernel)
theorem wd_262 : (Jvm.Cond.instanceMethod ({ cls := "MeaningTypes", name := "union", desc := "(II)I" } : Jvm.MethodName)) ∈ gx_tG := gx_mem 262 (by decide +kernel) (by decide +kernel)
theorem wd_263 : (Jvm.Cond.selects "MeaningTypes" ({ cls := "MeaningTypes", name := "union", desc := "(II)I" } : Jvm.MethodName) ({ cls := "MeaningTypes", name := "union", desc := "(II)I" } : Jvm.MethodName)) ∈ gx_tG := gx_mem 263 (by decide +kernel) (by decide +kernel)
theorem wd_264 : (Jvm.Cond.code ({ cls := "MeaningTypes", name := "union", desc := "(II)I" } : Jvm.MethodName) prog_1_method_5_code (3 : Nat) (Option.some Jvm.ClassFile.FieldType.int)) ∈ gx_tG := gx_mem 264 (by decide +kernel) (by decide +kernel)
theorem wd_265 : (Jvm.Cond.methodLink "MeaningTypesLaw" (31 : Nat) ({ cls := "MeaningTypes", name := "meet", desc := "(II)I" } : Jvm.MethodName)) ∈ gx_tG := gx_mem 265 (by decide +kernel) (by decide +kernel)
theorem wd_266 : (Jvm.Cond.instanceMethod ({ cls := "MeaningTypes", name := "meet", desc := "(II)I" } : Jvm.MethodName)) ∈ gx_tG := gx_mem 266 (by decide +kernel) (by decide +kernel)
theorem wd_267 : (Jvm.Cond.selects "MeaningTypes" ({ cls := "MeaningTypes", name := "meet", desc := "(II)I" } : Jvm.MethodName) ({ cls := "MeaningTypes", name := "meet", desc := "(II)I" } : Jvm.MethodName)) ∈ gx_tG := gx_mem 267 (by decide +kernel) (by decide +kernel)
theorem wd_268 : (Jvm.Cond.code ({ cls := "MeaningTypes", name := "meet", desc := "(II)I" } : Jvm.MethodName) prog_1_method_6_code (3 : Nat) (Option.some Jvm.ClassFile.FieldType.int)) ∈ gx_tG := gx_mem 268 (by decide +kernel) (by decide +kernel)
theorem wd_269 : (Jvm.Cond.methodLink "MeaningTypesLaw" (35 : Nat) ({ cls := "MeaningTypes", name := "not", desc := "(I)I" } : Jvm.MethodName)) ∈ gx_tG := gx_mem 269 (by decide +kernel) (by decide +kernel)
theorem wd_270 : (Jvm.Cond.instanceMethod ({ cls := "MeaningTypes", name := "not", desc := "(I)I" } : Jvm.MethodName)) ∈ gx_tG := gx_mem 270 (by decide +kernel) (by decide +kernel)
theorem wd_271 : (Jvm.Cond.selects "MeaningTypes" ({ cls := "MeaningTypes", name := "not", desc := "(I)I" } : Jvm.MethodName) ({ cls := "MeaningTypes", name := "not", desc := "(I)I" } : Jvm.MethodName)) ∈ gx_tG := gx_mem 271 (by decide +kernel) (by decide +kernel)
theorem wd_272 : (Jvm.Cond.code ({ cls := "MeaningTypes", name := "not", desc := "(I)I" } : Jvm.MethodName) prog_1_method_7_code (2 : Nat) (Option.some Jvm.ClassFile.FieldType.int)) ∈ gx_tG := gx_mem 272 (by decide +kernel) (by decide +kernel)
theorem wd_273 : (Jvm.Cond.methodLink "MeaningTypesLaw" (39 : Nat) ({ cls := "MeaningTypes", name := "any", desc := "()I" } : Jvm.MethodName)) ∈ gx_tG := gx_mem 273 (by decide +kernel) (by decide +kernel)
theorem wd_274 : (Jvm.Cond.instanceMethod ({ cls := "MeaningTypes", name := "any", desc := "()I" } : Jvm.MethodName)) ∈ gx_tG := gx_mem 274 (by decide +kernel) (by decide +kernel)
theorem wd_275 : (Jvm.Cond.selects "MeaningTypes" ({ cls := "MeaningTypes", name := "any", desc := "()I" } : Jvm.MethodName) ({ cls := "MeaningTypes", name := "any", desc := "()I" } : Jvm.MethodName)) ∈ gx_tG := gx_mem 275 (by decide +kernel) (by decide +kernel)
theorem wd_276 : (Jvm.Cond.code ({ cls := "MeaningTypes", name := "any", desc := "()I" } : Jvm.MethodName) prog_1_method_8_code (1 : Nat) (Option.some Jvm.ClassFile.FieldType.int)) ∈ gx_tG := gx_mem 276 (by decide +kernel) (by decide +kernel)
theorem wd_277 : (Jvm.Cond.methodLink "MeaningTypesLaw" (44 : Nat) ({ cls := "MeaningTypes", name := "types", desc := "()I" } : Jvm.MethodName)) ∈ gx_tG := gx_mem 277 (by decide +kernel) (by decide +kernel)
theorem wd_278 : (Jvm.Cond.instanceMethod ({ cls := "MeaningTypes", name := "types", desc := "()I" } : Jvm.MethodName)) ∈ gx_tG := gx_mem 278 (by decide +kernel) (by decide +kernel)
theorem wd_279 : (Jvm.Cond.selects "MeaningTypes" ({ cls := "MeaningTypes", name := "types", desc := "()I" } : Jvm.MethodName) ({ cls := "MeaningTypes", name := "types", desc := "()I" } : Jvm.MethodName)) ∈ gx_tG := gx_mem 279 (by decide +kernel) (by decide +kernel)
theorem wd_280 : (Jvm.Cond.code ({ cls := "MeaningTypes", name := "types", desc := "()I" } : Jvm.MethodName) prog_1_method_9_code (1 : Nat) (Option.some Jvm.ClassFile.FieldType.int)) ∈ gx_tG := gx_mem 280 (by decide +kernel) (by decide +kernel)
theorem wd_281 : (Jvm.Cond.methodLink "MeaningTypesLaw" (48 : Nat) ({ cls := "MeaningTypes", name := "empty", desc := "(I)Z" } : Jvm.MethodName)) ∈ gx_tG := gx_mem 281 (by decide +kernel) (by decide +kernel)
theorem wd_282 : (Jvm.Cond.instanceMethod ({ cls := "MeaningTypes", name := "empty", desc := "(I)Z" } : Jvm.MethodName)) ∈ gx_tG := gx_mem 282 (by decide +kernel) (by decide +kernel)
theorem wd_283 : (Jvm.Cond.selects "MeaningTypes" ({ cls := "MeaningTypes", name := "empty", desc := "(I)Z" } : Jvm.MethodName) ({ cls := "MeaningTypes", name := "empty", desc := "(I)Z" } : Jvm.MethodName)) ∈ gx_tG := gx_mem 283 (by decide +kernel) (by decide +kernel)
theorem wd_284 : (Jvm.Cond.code ({ cls := "MeaningTypes", name := "empty", desc := "(I)Z" } : Jvm.MethodName) prog_1_method_10_code (2 : Nat) (Option.some Jvm.ClassFile.FieldType.boolean)) ∈ gx_tG := gx_mem 284 (by decide +kernel) (by decide +kernel)
theorem wd_285 : (Jvm.Cond.methodLink "MeaningTypes" (48 : Nat) ({ cls := "MeaningTypes$Meanings", name := "someLiesIn", desc := "(II)Z" } : Jvm.MethodName)) ∈ gx_tG := gx_mem 285 (by decide +kernel) (by decide +kernel)
theorem wd_286 : (Jvm.Cond.instanceMethod ({ cls := "MeaningTypes$Meanings", name := "someLiesIn", desc := "(II)Z" } : Jvm.MethodName)) ∈ gx_tG := gx_mem 286 (by decide +kernel) (by decide +kernel)
theorem wd_287 : (Jvm.Cond.selects "MeaningTypes$Meanings" ({ cls := "MeaningTypes$Meanings", name := "someLiesIn", desc := "(II)Z" } : Jvm.MethodName) ({ cls := "MeaningTypes$Meanings", name := "someLiesIn", desc := "(II)Z" } : Jvm.MethodName)) ∈ gx_tG := gx_mem 287 (by decide +kernel) (by decide +kernel)
theorem wd_288 : (Jvm.Cond.code ({ cls := "MeaningTypes$Meanings", name := "someLiesIn", desc := "(II)Z" } : Jvm.MethodName) prog_2_method_11_code (5 : Nat) (Option.some Jvm.ClassFile.FieldType.boolean)) ∈ gx_tG := gx_mem 288 (by decide +kernel) (by decide +kernel)
theorem wd_289 : (Jvm.Cond.methodLink "MeaningTypesLaw" (53 : Nat) ({ cls := "MeaningTypes", name := "within", desc := "(II)Z" } : Jvm.MethodName)) ∈ gx_tG := gx_mem 289 (by decide +kernel) (by decide +kernel)
theorem wd_290 : (Jvm.Cond.instanceMethod ({ cls := "MeaningTypes", name := "within", desc := "(II)Z" } : Jvm.MethodName)) ∈ gx_tG := gx_mem 290 (by decide +kernel) (by decide +kernel)
theorem wd_291 : (Jvm.Cond.selects "MeaningTypes" ({ cls := "MeaningTypes", name := "within", desc := "(II)Z" } : Jvm.MethodName) ({ cls := "MeaningTypes", name := "within", desc := "(II)Z" } : Jvm.MethodName)) ∈ gx_tG := gx_mem 291 (by decide +kernel) (by decide +kernel)
theorem wd_292 : (Jvm.Cond.code ({ cls := "MeaningTypes", name := "within", desc := "(II)Z" } : Jvm.MethodName) prog_1_method_11_code (3 : Nat) (Option.some Jvm.ClassFile.FieldType.boolean)) ∈ gx_tG := gx_mem 292 (by decide +kernel) (by decide +kernel)
theorem wd_293 : (Jvm.Cond.methodLink "MeaningTypes" (52 : Nat) ({ cls := "MeaningTypes$Meanings", name := "liesIn", desc := "(II)Z" } : Jvm.MethodName)) ∈ gx_tG := gx_mem 293 (by decide +kernel) (by decide +kernel)
theorem wd_294 : (Jvm.Cond.instanceMethod ({ cls := "MeaningTypes$Meanings", name := "liesIn", desc := "(II)Z" } : Jvm.MethodName)) ∈ gx_tG := gx_mem 294 (by decide +kernel) (by decide +kernel)
theorem wd_295 : (Jvm.Cond.selects "MeaningTypes$Meanings" ({ cls := "MeaningTypes$Meanings", name := "liesIn", desc := "(II)Z" } : Jvm.MethodName) ({ cls := "MeaningTypes$Meanings", name := "liesIn", desc := "(II)Z" } : Jvm.MethodName)) ∈ gx_tG := gx_mem 295 (by decide +kernel) (by decide +kernel)
theorem wd_296 : (Jvm.Cond.code ({ cls := "MeaningTypes$Meanings", name := "liesIn", desc := "(II)Z" } : Jvm.MethodName) prog_2_method_10_code (3 : Nat) (Option.some Jvm.ClassFile.FieldType.boolean)) ∈ gx_tG := gx_mem 296 (by decide +kernel) (by decide +kernel)
theorem wd_297 : (Jvm.Cond.methodLink "MeaningTypes$Meanings" (109 : Nat) ({ cls := "MeaningTypes$Meanings", name := "someLiesIn", desc := "(II)Z" } : Jvm.MethodName)) ∈ gx_tG := gx_mem 297 (by decide +kernel) (by decide +kernel)
theorem wd_298 : (Jvm.Cond.methodLink "MeaningTypesLaw" (58 : Nat) ({ cls := "MeaningTypes", name := "compare", desc := "(II)I" } : Jvm.MethodName)) ∈ gx_tG := gx_mem 298 (by decide +kernel) (by decide +kernel)
theorem wd_299 : (Jvm.Cond.instanceMethod ({ cls := "MeaningTypes", name := "compare", desc := "(II)I" } : Jvm.MethodName)) ∈ gx_tG := gx_mem 299 (by decide +kernel) (by decide +kernel)
theorem wd_300 : (Jvm.Cond.selects "MeaningTypes" ({ cls := "MeaningTypes", name := "compare", desc := "(II)I" } : Jvm.MethodName) ({ cls := "MeaningTypes", name := "compare", desc := "(II)I" } : Jvm.MethodName)) ∈ gx_tG := gx_mem 300 (by decide +kernel) (by decide +kernel)
theorem wd_301 : (Jvm.Cond.code ({ cls := "MeaningTypes", name := "compare", desc := "(II)I" } : Jvm.MethodName) prog_1_method_12_code (5 : Nat) (Option.some Jvm.ClassFile.FieldType.int)) ∈ gx_tG := gx_mem 301 (by decide +kernel) (by decide +kernel)
theorem wd_302 : (Jvm.Cond.methodLink "MeaningTypesLaw" (62 : Nat) ({ cls := "MeaningTypes", name := "answers", desc := "(III)Z" } : Jvm.MethodName)) ∈ gx_tG := gx_mem 302 (by decide +kernel) (by decide +kernel)
theorem wd_303 : (Jvm.Cond.instanceMethod ({ cls := "MeaningTypes", name := "answers", desc := "(III)Z" } : Jvm.MethodName)) ∈ gx_tG := gx_mem 303 (by decide +kernel) (by decide +kernel)
theorem wd_304 : (Jvm.Cond.selects "MeaningTypes" ({ cls := "MeaningTypes", name := "answers", desc := "(III)Z" } : Jvm.MethodName) ({ cls := "MeaningTypes", name := "answers", desc := "(III)Z" } : Jvm.MethodName)) ∈ gx_tG := gx_mem 304 (by decide +kernel) (by decide +kernel)
theorem wd_305 : (Jvm.Cond.code ({ cls := "MeaningTypes", name := "answers", desc := "(III)Z" } : Jvm.MethodName) prog_1_method_13_code (6 : Nat) (Option.some Jvm.ClassFile.FieldType.boolean)) ∈ gx_tG := gx_mem 305 (by decide +kernel) (by decide +kernel)
theorem wd_306 : (Jvm.Cond.methodLink "MeaningTypes" (58 : Nat) ({ cls := "MeaningTypes$TypeTable", name := "keep", desc := "(I)V" } : Jvm.MethodName)) ∈ gx_tG := gx_mem 306 (by decide +kernel) (by decide +kernel)
theorem wd_307 : (Jvm.Cond.instanceMethod ({ cls := "MeaningTypes$TypeTable", name := "keep", desc := "(I)V" } : Jvm.MethodName)) ∈ gx_tG := gx_mem 307 (by decide +kernel) (by decide +kernel)
theorem wd_308 : (Jvm.Cond.selects "MeaningTypes$TypeTable" ({ cls := "MeaningTypes$TypeTable", name := "keep", desc := "(I)V" } : Jvm.MethodName) ({ cls := "MeaningTypes$TypeTable", name := "keep", desc := "(I)V" } : Jvm.MethodName)) ∈ gx_tG := gx_mem 308 (by decide +kernel) (by decide +kernel)
theorem wd_309 : (Jvm.Cond.code ({ cls := "MeaningTypes$TypeTable", name := "keep", desc := "(I)V" } : Jvm.MethodName) prog_4_method_5_code (2 : Nat) (Option.none : Option Jvm.ClassFile.FieldType)) ∈ gx_tG := gx_mem 309 (by decide +kernel) (by decide +kernel)
theorem wd_310 : (Jvm.Cond.methodLink "MeaningTypes$TypeTable" (46 : Nat) ({ cls := "java/lang/Math", name := "min", desc := "(II)I" } : Jvm.MethodName)) ∈ gx_tG := gx_mem 310 (by decide +kernel) (by decide +kernel)
theorem wd_311 : (Jvm.Cond.methodLink "MeaningTypesLaw" (67 : Nat) ({ cls := "MeaningTypes", name := "constant", desc := "(I)I" } : Jvm.MethodName)) ∈ gx_tG := gx_mem 311 (by decide +kernel) (by decide +kernel)
theorem wd_312 : (Jvm.Cond.instanceMethod ({ cls := "MeaningTypes", name := "constant", desc := "(I)I" } : Jvm.MethodName)) ∈ gx_tG := gx_mem 312 (by decide +kernel) (by decide +kernel)
theorem wd_313 : (Jvm.Cond.selects "MeaningTypes" ({ cls := "MeaningTypes", name := "constant", desc := "(I)I" } : Jvm.MethodName) ({ cls := "MeaningTypes", name := "constant", desc := "(I)I" } : Jvm.MethodName)) ∈ gx_tG := gx_mem 313 (by decide +kernel) (by decide +kernel)
theorem wd_314 : (Jvm.Cond.code ({ cls := "MeaningTypes", name := "constant", desc := "(I)I" } : Jvm.MethodName) prog_1_method_14_code (2 : Nat) (Option.some Jvm.ClassFile.FieldType.int)) ∈ gx_tG := gx_mem 314 (by decide +kernel) (by decide +kernel)
theorem wd_315 : (Jvm.Cond.methodLink "MeaningTypes" (62 : Nat) ({ cls := "MeaningTypes", name := "makeValue", desc := "(IIII)I" } : Jvm.MethodName)) ∈ gx_tG := gx_mem 315 (by decide +kernel) (by decide +kernel)
theorem wd_317 : (Jvm.Cond.instanceMethod ({ cls := "MeaningTypes", name := "makeValue", desc := "(IIII)I" } : Jvm.MethodName)) ∈ gx_tG := gx_mem 317 (by decide +kernel) (by decide +kernel)
theorem wd_318 : (Jvm.Cond.code ({ cls := "MeaningTypes", name := "makeValue", desc := "(IIII)I" } : Jvm.MethodName) prog_1_method_24_code (5 : Nat) (Option.some Jvm.ClassFile.FieldType.int)) ∈ gx_tG := gx_mem 318 (by decide +kernel) (by decide +kernel)
theorem wd_319 : (Jvm.Cond.methodLink "MeaningTypes" (97 : Nat) ({ cls := "MeaningTypes$ValueTable", name := "add", desc := "(IIII)I" } : Jvm.MethodName)) ∈ gx_tG := gx_mem 319 (by decide +kernel) (by decide +kernel)
theorem wd_320 : (Jvm.Cond.instanceMethod ({ cls := "MeaningTypes$ValueTable", name := "add", desc := "(IIII)I" } : Jvm.MethodName)) ∈ gx_tG := gx_mem 320 (by decide +kernel) (by decide +kernel)
theorem wd_321 : (Jvm.Cond.selects "MeaningTypes$ValueTable" ({ cls := "MeaningTypes$ValueTable", name := "add", desc := "(IIII)I" } : Jvm.MethodName) ({ cls := "MeaningTypes$ValueTable", name := "add", desc := "(IIII)I" } : Jvm.MethodName)) ∈ gx_tG := gx_mem 321 (by decide +kernel) (by decide +kernel)
theorem wd_322 : (Jvm.Cond.code ({ cls := "MeaningTypes$ValueTable", name := "add", desc := "(IIII)I" } : Jvm.MethodName) prog_5_method_3_code (6 : Nat) (Option.some Jvm.ClassFile.FieldType.int)) ∈ gx_tG := gx_mem 322 (by decide +kernel) (by decide +kernel)
theorem wd_323 : (Jvm.Cond.methodLink "MeaningTypesLaw" (71 : Nat) ({ cls := "MeaningTypes", name := "pair", desc := "(II)I" } : Jvm.MethodName)) ∈ gx_tG := gx_mem 323 (by decide +kernel) (by decide +kernel)
theorem wd_324 : (Jvm.Cond.instanceMethod ({ cls := "MeaningTypes", name := "pair", desc := "(II)I" } : Jvm.MethodName)) ∈ gx_tG := gx_mem 324 (by decide +kernel) (by decide +kernel)
theorem wd_325 : (Jvm.Cond.selects "MeaningTypes" ({ cls := "MeaningTypes", name := "pair", desc := "(II)I" } : Jvm.MethodName) ({ cls := "MeaningTypes", name := "pair", desc := "(II)I" } : Jvm.MethodName)) ∈ gx_tG := gx_mem 325 (by decide +kernel) (by decide +kernel)
theorem wd_326 : (Jvm.Cond.code ({ cls := "MeaningTypes", name := "pair", desc := "(II)I" } : Jvm.MethodName) prog_1_method_15_code (3 : Nat) (Option.some Jvm.ClassFile.FieldType.int)) ∈ gx_tG := gx_mem 326 (by decide +kernel) (by decide +kernel)
theorem wd_327 : (Jvm.Cond.methodLink "MeaningTypes" (66 : Nat) ({ cls := "MeaningTypes$ValueTable", name := "has", desc := "(I)Z" } : Jvm.MethodName)) ∈ gx_tG := gx_mem 327 (by decide +kernel) (by decide +kernel)
theorem wd_328 : (Jvm.Cond.instanceMethod ({ cls := "MeaningTypes$ValueTable", name := "has", desc := "(I)Z" } : Jvm.MethodName)) ∈ gx_tG := gx_mem 328 (by decide +kernel) (by decide +kernel)
theorem wd_329 : (Jvm.Cond.selects "MeaningTypes$ValueTable" ({ cls := "MeaningTypes$ValueTable", name := "has", desc := "(I)Z" } : Jvm.MethodName) ({ cls := "MeaningTypes$ValueTable", name := "has", desc := "(I)Z" } : Jvm.MethodName)) ∈ gx_tG := gx_mem 329 (by decide +kernel) (by decide +kernel)
theorem wd_330 : (Jvm.Cond.code ({ cls := "MeaningTypes$ValueTable", name := "has", desc := "(I)Z" } : Jvm.MethodName) prog_5_method_2_code (2 : Nat) (Option.some Jvm.ClassFile.FieldType.boolean)) ∈ gx_tG := gx_mem 330 (by decide +kernel) (by decide +kernel)
theorem wd_331 : (Jvm.Cond.methodLink "MeaningTypesLaw" (75 : Nat) ({ cls := "MeaningTypes", name := "function", desc := "(I)I" } : Jvm.MethodName)) ∈ gx_tG := gx_mem 331 (by decide +kernel) (by decide +kernel)
theorem wd_332 : (Jvm.Cond.instanceMethod ({ cls := "MeaningTypes", name := "function", desc := "(I)I" } : Jvm.MethodName)) ∈ gx_tG := gx_mem 332 (by decide +kernel) (by decide +kernel)
theorem wd_333 : (Jvm.Cond.selects "MeaningTypes" ({ cls := "MeaningTypes", name := "function", desc := "(I)I" } : Jvm.MethodName) ({ cls := "MeaningTypes", name := "function", desc := "(I)I" } : Jvm.MethodName)) ∈ gx_tG := gx_mem 333 (by decide +kernel) (by decide +kernel)
theorem wd_334 : (Jvm.Cond.code ({ cls := "MeaningTypes", name := "function", desc := "(I)I" } : Jvm.MethodName) prog_1_method_16_code (2 : Nat) (Option.some Jvm.ClassFile.FieldType.int)) ∈ gx_tG := gx_mem 334 (by decide +kernel) (by decide +kernel)
theorem wd_335 : (Jvm.Cond.methodLink "MeaningTypesLaw" (79 : Nat) ({ cls := "MeaningTypes", name := "belongs", desc := "(II)Z" } : Jvm.MethodName)) ∈ gx_tG := gx_mem 335 (by decide +kernel) (by decide +kernel)
theorem wd_336 : (Jvm.Cond.instanceMethod ({ cls := "MeaningTypes", name := "belongs", desc := "(II)Z" } : Jvm.MethodName)) ∈ gx_tG := gx_mem 336 (by decide +kernel) (by decide +kernel)
theorem wd_337 : (Jvm.Cond.selects "MeaningTypes" ({ cls := "MeaningTypes", name := "belongs", desc := "(II)Z" } : Jvm.MethodName) ({ cls := "MeaningTypes", name := "belongs", desc := "(II)Z" } : Jvm.MethodName)) ∈ gx_tG := gx_mem 337 (by decide +kernel) (by decide +kernel)
theorem wd_338 : (Jvm.Cond.code ({ cls := "MeaningTypes", name := "belongs", desc := "(II)Z" } : Jvm.MethodName) prog_1_method_17_code (3 : Nat) (Option.some Jvm.ClassFile.FieldType.boolean)) ∈ gx_tG := gx_mem 338 (by decide +kernel) (by decide +kernel)
theorem wd_339 : (Jvm.Cond.methodLink "MeaningTypes" (77 : Nat) ({ cls := "MeaningTypes$ValueTable", name := "typesOf", desc := "(ILMeaningTypes$Meanings;)I" } : Jvm.MethodName)) ∈ gx_tG := gx_mem 339 (by decide +kernel) (by decide +kernel)
theorem wd_340 : (Jvm.Cond.instanceMethod ({ cls := "MeaningTypes$ValueTable", name := "typesOf", desc := "(ILMeaningTypes$Meanings;)I" } : Jvm.MethodName)) ∈ gx_tG := gx_mem 340 (by decide +kernel) (by decide +kernel)
theorem wd_341 : (Jvm.Cond.selects "MeaningTypes$ValueTable" ({ cls := "MeaningTypes$ValueTable", name := "typesOf", desc := "(ILMeaningTypes$Meanings;)I" } : Jvm.MethodName) ({ cls := "MeaningTypes$ValueTable", name := "typesOf", desc := "(ILMeaningTypes$Meanings;)I" } : Jvm.MethodName)) ∈ gx_tG := gx_mem 341 (by decide +kernel) (by decide +kernel)
theorem wd_342 : (Jvm.Cond.code ({ cls := "MeaningTypes$ValueTable", name := "typesOf", desc := "(ILMeaningTypes$Meanings;)I" } : Jvm.MethodName) prog_5_method_4_code (5 : Nat) (Option.some Jvm.ClassFile.FieldType.int)) ∈ gx_tG := gx_mem 342 (by decide +kernel) (by decide +kernel)
theorem wd_343 : (Jvm.Cond.methodLink "MeaningTypes$ValueTable" (44 : Nat) ({ cls := "MeaningTypes$ValueTable", name := "fill", desc := "(LMeaningTypes$ProfileSet;ILMeaningTypes$Meanings;I)V" } : Jvm.MethodName)) ∈ gx_tG := gx_mem 343 (by decide +kernel) (by decide +kernel)
theorem wd_345 : (Jvm.Cond.instanceMethod ({ cls := "MeaningTypes$ValueTable", name := "fill", desc := "(LMeaningTypes$ProfileSet;ILMeaningTypes$Meanings;I)V" } : Jvm.MethodName)) ∈ gx_tG := gx_mem 345 (by decide +kernel) (by decide +kernel)
theorem wd_346 : (Jvm.Cond.code ({ cls := "MeaningTypes$ValueTable", name := "fill", desc := "(LMeaningTypes$ProfileSet;ILMeaningTypes$Meanings;I)V" } : Jvm.MethodName) prog_5_method_5_code (5 : Nat) (Option.none : Option Jvm.ClassFile.FieldType)) ∈ gx_tG := gx_mem 346 (by decide +kernel) (by decide +kernel)
theorem wd_347 : (Jvm.Cond.methodLink "MeaningTypes$ValueTable" (64 : Nat) ({ cls := "MeaningTypes$ProfileSet", name := "restart", desc := "(I)V" } : Jvm.MethodName)) ∈ gx_tG := gx_mem 347 (by decide +kernel) (by decide +kernel)
theorem wd_348 : (Jvm.Cond.methodLink "MeaningTypes$ValueTable" (67 : Nat) ({ cls := "MeaningTypes$TypeTable", name := "profileOfConstant", desc := "(I)I" } : Jvm.MethodName)) ∈ gx_tG := gx_mem 348 (by decide +kernel) (by decide +kernel)
theorem wd_349 : (Jvm.Cond.methodLink "MeaningTypes$ValueTable" (70 : Nat) ({ cls := "MeaningTypes$ProfileSet", name := "add", desc := "(I)V" } : Jvm.MethodName)) ∈ gx_tG := gx_mem 349 (by decide +kernel) (by decide +kernel)
theorem wd_350 : (Jvm.Cond.methodLink "MeaningTypes$ValueTable" (73 : Nat) ({ cls := "MeaningTypes$Meanings", name := "addMembers", desc := "(ILMeaningTypes$ProfileSet;)V" } : Jvm.MethodName)) ∈ gx_tG := gx_mem 350 (by decide +kernel) (by decide +kernel)
theorem wd_351 : (Jvm.Cond.instanceMethod ({ cls := "MeaningTypes$Meanings", name := "addMembers", desc := "(ILMeaningTypes$ProfileSet;)V" } : Jvm.MethodName)) ∈ gx_tG := gx_mem 351 (by decide +kernel) (by decide +kernel)
theorem wd_352 : (Jvm.Cond.selects "MeaningTypes$Meanings" ({ cls := "MeaningTypes$Meanings", name := "addMembers", desc := "(ILMeaningTypes$ProfileSet;)V" } : Jvm.MethodName) ({ cls := "MeaningTypes$Meanings", name := "addMembers", desc := "(ILMeaningTypes$ProfileSet;)V" } : Jvm.MethodName)) ∈ gx_tG := gx_mem 352 (by decide +kernel) (by decide +kernel)
theorem wd_353 : (Jvm.Cond.code ({ cls := "MeaningTypes$Meanings", name := "addMembers", desc := "(ILMeaningTypes$ProfileSet;)V" } : Jvm.MethodName) prog_2_method_9_code (5 : Nat) (Option.none : Option Jvm.ClassFile.FieldType)) ∈ gx_tG := gx_mem 353 (by decide +kernel) (by decide +kernel)
theorem wd_355 : (Jvm.Cond.methodLink "MeaningTypes$ValueTable" (77 : Nat) ({ cls := "MeaningTypes$Meanings", name := "addPairs", desc := "(LMeaningTypes$ProfileSet;LMeaningTypes$ProfileSet;LMeaningTypes$ProfileSet;)V" } : Jvm.MethodName)) ∈ gx_tG := gx_mem 355 (by decide +kernel) (by decide +kernel)
theorem wd_356 : (Jvm.Cond.methodLink "MeaningTypes$ValueTable" (57 : Nat) ({ cls := "MeaningTypes$ProfileSet", name := "nextFrom", desc := "(I)I" } : Jvm.MethodName)) ∈ gx_tG := gx_mem 356 (by decide +kernel) (by decide +kernel)
theorem wd_357 : (Jvm.Cond.methodLink "MeaningTypes" (81 : Nat) ({ cls := "MeaningTypes", name := "holds", desc := "(II)Z" } : Jvm.MethodName)) ∈ gx_tG := gx_mem 357 (by decide +kernel) (by decide +kernel)
theorem wd_358 : (Jvm.Cond.methodLink "MeaningTypesLaw" (83 : Nat) ({ cls := "MeaningTypes", name := "match", desc := "(IIII)I" } : Jvm.MethodName)) ∈ gx_tG := gx_mem 358 (by decide +kernel) (by decide +kernel)
theorem wd_359 : (Jvm.Cond.instanceMethod ({ cls := "MeaningTypes", name := "match", desc := "(IIII)I" } : Jvm.MethodName)) ∈ gx_tG := gx_mem 359 (by decide +kernel) (by decide +kernel)
theorem wd_360 : (Jvm.Cond.selects "MeaningTypes" ({ cls := "MeaningTypes", name := "match", desc := "(IIII)I" } : Jvm.MethodName) ({ cls := "MeaningTypes", name := "match", desc := "(IIII)I" } : Jvm.MethodName)) ∈ gx_tG := gx_mem 360 (by decide +kernel) (by decide +kernel)
theorem wd_361 : (Jvm.Cond.code ({ cls := "MeaningTypes", name := "match", desc := "(IIII)I" } : Jvm.MethodName) prog_1_method_18_code (6 : Nat) (Option.some Jvm.ClassFile.FieldType.int)) ∈ gx_tG := gx_mem 361 (by decide +kernel) (by decide +kernel)
theorem wd_362 : (Jvm.Cond.methodLink "MeaningTypesLaw" (88 : Nat) ({ cls := "MeaningTypes", name := "sorts", desc := "(I)I" } : Jvm.MethodName)) ∈ gx_tG := gx_mem 362 (by decide +kernel) (by decide +kernel)
theorem wd_363 : (Jvm.Cond.instanceMethod ({ cls := "MeaningTypes", name := "sorts", desc := "(I)I" } : Jvm.MethodName)) ∈ gx_tG := gx_mem 363 (by decide +kernel) (by decide +kernel)
theorem wd_364 : (Jvm.Cond.selects "MeaningTypes" ({ cls := "MeaningTypes", name := "sorts", desc := "(I)I" } : Jvm.MethodName) ({ cls := "MeaningTypes", name := "sorts", desc := "(I)I" } : Jvm.MethodName)) ∈ gx_tG := gx_mem 364 (by decide +kernel) (by decide +kernel)
theorem wd_365 : (Jvm.Cond.code ({ cls := "MeaningTypes", name := "sorts", desc := "(I)I" } : Jvm.MethodName) prog_1_method_19_code (2 : Nat) (Option.some Jvm.ClassFile.FieldType.int)) ∈ gx_tG := gx_mem 365 (by decide +kernel) (by decide +kernel)
theorem wd_366 : (Jvm.Cond.methodLink "MeaningTypes" (84 : Nat) ({ cls := "java/lang/Integer", name := "bitCount", desc := "(I)I" } : Jvm.MethodName)) ∈ gx_tG := gx_mem 366 (by decide +kernel) (by decide +kernel)
theorem wd_367 : (Jvm.Cond.static ({ cls := "java/lang/Integer", name := "bitCount", desc := "(I)I" } : Jvm.MethodName)) ∈ gx_tG := gx_mem 367 (by decide +kernel) (by decide +kernel)
theorem wd_368 : (Jvm.Cond.code ({ cls := "java/lang/Integer", name := "bitCount", desc := "(I)I" } : Jvm.MethodName) prog_8_method_49_code (1 : Nat) (Option.some Jvm.ClassFile.FieldType.int)) ∈ gx_tG := gx_mem 368 (by decide +kernel) (by decide +kernel)
theorem wd_369 : (Jvm.Cond.constant "java/lang/Integer" (265 : Nat) (1431655765 : Int32)) ∈ gx_tG := gx_mem 369 (by decide +kernel) (by decide +kernel)
theorem wd_370 : (Jvm.Cond.constant "java/lang/Integer" (266 : Nat) (858993459 : Int32)) ∈ gx_tG := gx_mem 370 (by decide +kernel) (by decide +kernel)
theorem wd_371 : (Jvm.Cond.constant "java/lang/Integer" (267 : Nat) (252645135 : Int32)) ∈ gx_tG := gx_mem 371 (by decide +kernel) (by decide +kernel)
theorem wd_372 : (Jvm.Cond.methodLink "MeaningTypesLaw" (92 : Nat) ({ cls := "MeaningTypes", name := "cut", desc := "(I)I" } : Jvm.MethodName)) ∈ gx_tG := gx_mem 372 (by decide +kernel) (by decide +kernel)
theorem wd_373 : (Jvm.Cond.instanceMethod ({ cls := "MeaningTypes", name := "cut", desc := "(I)I" } : Jvm.MethodName)) ∈ gx_tG := gx_mem 373 (by decide +kernel) (by decide +kernel)
theorem wd_374 : (Jvm.Cond.selects "MeaningTypes" ({ cls := "MeaningTypes", name := "cut", desc := "(I)I" } : Jvm.MethodName) ({ cls := "MeaningTypes", name := "cut", desc := "(I)I" } : Jvm.MethodName)) ∈ gx_tG := gx_mem 374 (by decide +kernel) (by decide +kernel)
theorem wd_375 : (Jvm.Cond.code ({ cls := "MeaningTypes", name := "cut", desc := "(I)I" } : Jvm.MethodName) prog_1_method_20_code (2 : Nat) (Option.some Jvm.ClassFile.FieldType.int)) ∈ gx_tG := gx_mem 375 (by decide +kernel) (by decide +kernel)
theorem wd_376 : (Jvm.Cond.methodLink "MeaningTypes" (91 : Nat) ({ cls := "java/lang/Math", name := "max", desc := "(II)I" } : Jvm.MethodName)) ∈ gx_tG := gx_mem 376 (by decide +kernel) (by decide +kernel)
theorem wd_377 : (Jvm.Cond.classLink "MeaningTypesLaw" (10 : Nat) "MeaningTypesModel") ∈ gx_tG := gx_mem 377 (by decide +kernel) (by decide +kernel)
theorem wd_378 : (Jvm.Cond.instantiable "MeaningTypesModel" (16 : Nat)) ∈ gx_tG := gx_mem 378 (by decide +kernel) (by decide +kernel)
theorem wd_379 : (Jvm.Cond.methodLink "MeaningTypesLaw" (12 : Nat) ({ cls := "MeaningTypesModel", name := "<init>", desc := "()V" } : Jvm.MethodName)) ∈ gx_tG := gx_mem 379 (by decide +kernel) (by decide +kernel)
theorem wd_380 : (Jvm.Cond.instanceMethod ({ cls := "MeaningTypesModel", name := "<init>", desc := "()V" } : Jvm.MethodName)) ∈ gx_tG := gx_mem 380 (by decide +kernel) (by decide +kernel)
theorem wd_381 : (Jvm.Cond.code ({ cls := "MeaningTypesModel", name := "<init>", desc := "()V" } : Jvm.MethodName) prog_7_method_1_code (1 : Nat) (Option.none : Option Jvm.ClassFile.FieldType)) ∈ gx_tG := gx_mem 381 (by decide +kernel) (by decide +kernel)
theorem wd_382 : (Jvm.Cond.methodLink "MeaningTypesModel" (1 : Nat) ({ cls := "java/lang/Object", name := "<init>", desc := "()V" } : Jvm.MethodName)) ∈ gx_tG := gx_mem 382 (by decide +kernel) (by decide +kernel)
theorem wd_383 : (Jvm.Cond.fieldLink "MeaningTypesModel" (49 : Nat) "MeaningTypesModel" "types" "I") ∈ gx_tG := gx_mem 383 (by decide +kernel) (by decide +kernel)
theorem wd_384 : (Jvm.Cond.fieldLink "MeaningTypesModel" (7 : Nat) "MeaningTypesModel" "kind" "[I") ∈ gx_tG := gx_mem 384 (by decide +kernel) (by decide +kernel)
theorem wd_385 : (Jvm.Cond.fieldLink "MeaningTypesModel" (13 : Nat) "MeaningTypesModel" "one" "[I") ∈ gx_tG := gx_mem 385 (by decide +kernel) (by decide +kernel)
theorem wd_386 : (Jvm.Cond.fieldLink "MeaningTypesModel" (16 : Nat) "MeaningTypesModel" "two" "[I") ∈ gx_tG := gx_mem 386 (by decide +kernel) (by decide +kernel)
theorem wd_387 : (Jvm.Cond.fieldLink "MeaningTypesModel" (19 : Nat) "MeaningTypesModel" "depth" "[I") ∈ gx_tG := gx_mem 387 (by decide +kernel) (by decide +kernel)
theorem wd_388 : (Jvm.Cond.fieldLink "MeaningTypesModel" (22 : Nat) "MeaningTypesModel" "isInterface" "[Z") ∈ gx_tG := gx_mem 388 (by decide +kernel) (by decide +kernel)
theorem wd_389 : (Jvm.Cond.fieldLink "MeaningTypesModel" (122 : Nat) "MeaningTypesModel" "values" "I") ∈ gx_tG := gx_mem 389 (by decide +kernel) (by decide +kernel)
theorem wd_390 : (Jvm.Cond.fieldLink "MeaningTypesModel" (26 : Nat) "MeaningTypesModel" "sort" "[I") ∈ gx_tG := gx_mem 390 (by decide +kernel) (by decide +kernel)
theorem wd_391 : (Jvm.Cond.fieldLink "MeaningTypesModel" (29 : Nat) "MeaningTypesModel" "first" "[I") ∈ gx_tG := gx_mem 391 (by decide +kernel) (by decide +kernel)
theorem wd_392 : (Jvm.Cond.fieldLink "MeaningTypesModel" (32 : Nat) "MeaningTypesModel" "second" "[I") ∈ gx_tG := gx_mem 392 (by decide +kernel) (by decide +kernel)
theorem wd_393 : (Jvm.Cond.fieldLink "MeaningTypesModel" (35 : Nat) "MeaningTypesModel" "leaves" "[I") ∈ gx_tG := gx_mem 393 (by decide +kernel) (by decide +kernel)
theorem wd_394 : (Jvm.Cond.fieldLink "MeaningTypesModel" (38 : Nat) "MeaningTypesModel" "set" "[J") ∈ gx_tG := gx_mem 394 (by decide +kernel) (by decide +kernel)
theorem wd_395 : (Jvm.Cond.fieldLink "MeaningTypesModel" (53 : Nat) "MeaningTypesModel" "known" "I") ∈ gx_tG := gx_mem 395 (by decide +kernel) (by decide +kernel)
theorem wd_396 : (Jvm.Cond.fieldLink "MeaningTypesModel" (71 : Nat) "MeaningTypesModel" "products" "I") ∈ gx_tG := gx_mem 396 (by decide +kernel) (by decide +kernel)
theorem wd_397 : (Jvm.Cond.fieldLink "MeaningTypesModel" (74 : Nat) "MeaningTypesModel" "arrows" "I") ∈ gx_tG := gx_mem 397 (by decide +kernel) (by decide +kernel)
theorem wd_398 : (Jvm.Cond.fieldLink "MeaningTypesModel" (42 : Nat) "MeaningTypesModel" "place" "[I") ∈ gx_tG := gx_mem 398 (by decide +kernel) (by decide +kernel)
theorem wd_432 : (Jvm.Cond.methodLink "MeaningTypesLaw" (17 : Nat) ({ cls := "MeaningTypesModel", name := "constants", desc := "(I)I" } : Jvm.MethodName)) ∈ gx_tG := gx_mem 432 (by decide +kernel) (by decide +kernel)
theorem wd_433 : (Jvm.Cond.instanceMethod ({ cls := "MeaningTypesModel", name := "constants", desc := "(I)I" } : Jvm.MethodName)) ∈ gx_tG := gx_mem 433 (by decide +kernel) (by decide +kernel)
theorem wd_434 : (Jvm.Cond.selects "MeaningTypesModel" ({ cls := "MeaningTypesModel", name := "constants", desc := "(I)I" } : Jvm.MethodName) ({ cls := "MeaningTypesModel", name := "constants", desc := "(I)I" } : Jvm.MethodName)) ∈ gx_tG := gx_mem 434 (by decide +kernel) (by decide +kernel)
theorem wd_435 : (Jvm.Cond.code ({ cls := "MeaningTypesModel", name := "constants", desc := "(I)I" } : Jvm.MethodName) prog_7_method_9_code (2 : Nat) (Option.some Jvm.ClassFile.FieldType.int)) ∈ gx_tG := gx_mem 435 (by decide +kernel) (by decide +kernel)
theorem wd_436 : (Jvm.Cond.methodLink "MeaningTypesModel" (64 : Nat) ({ cls := "MeaningTypesModel", name := "make", desc := "(IIII)I" } : Jvm.MethodName)) ∈ gx_tG := gx_mem 436 (by decide +kernel) (by decide +kernel)
theorem wd_438 : (Jvm.Cond.instanceMethod ({ cls := "MeaningTypesModel", name := "make", desc := "(IIII)I" } : Jvm.MethodName)) ∈ gx_tG := gx_mem 438 (by decide +kernel) (by decide +kernel)
theorem wd_439 : (Jvm.Cond.code ({ cls := "MeaningTypesModel", name := "make", desc := "(IIII)I" } : Jvm.MethodName) prog_7_method_6_code (5 : Nat) (Option.some Jvm.ClassFile.FieldType.int)) ∈ gx_tG := gx_mem 439 (by decide +kernel) (by decide +kernel)
theorem wd_440 : (Jvm.Cond.methodLink "MeaningTypesLaw" (22 : Nat) ({ cls := "MeaningTypesModel", name := "product", desc := "(II)I" } : Jvm.MethodName)) ∈ gx_tG := gx_mem 440 (by decide +kernel) (by decide +kernel)
theorem wd_441 : (Jvm.Cond.instanceMethod ({ cls := "MeaningTypesModel", name := "product", desc := "(II)I" } : Jvm.MethodName)) ∈ gx_tG := gx_mem 441 (by decide +kernel) (by decide +kernel)
theorem wd_442 : (Jvm.Cond.selects "MeaningTypesModel" ({ cls := "MeaningTypesModel", name := "product", desc := "(II)I" } : Jvm.MethodName) ({ cls := "MeaningTypesModel", name := "product", desc := "(II)I" } : Jvm.MethodName)) ∈ gx_tG := gx_mem 442 (by decide +kernel) (by decide +kernel)
theorem wd_443 : (Jvm.Cond.code ({ cls := "MeaningTypesModel", name := "product", desc := "(II)I" } : Jvm.MethodName) prog_7_method_10_code (3 : Nat) (Option.some Jvm.ClassFile.FieldType.int)) ∈ gx_tG := gx_mem 443 (by decide +kernel) (by decide +kernel)
theorem wd_444 : (Jvm.Cond.methodLink "MeaningTypesModel" (68 : Nat) ({ cls := "MeaningTypesModel", name := "combine", desc := "(IIII)I" } : Jvm.MethodName)) ∈ gx_tG := gx_mem 444 (by decide +kernel) (by decide +kernel)
theorem wd_446 : (Jvm.Cond.instanceMethod ({ cls := "MeaningTypesModel", name := "combine", desc := "(IIII)I" } : Jvm.MethodName)) ∈ gx_tG := gx_mem 446 (by decide +kernel) (by decide +kernel)
theorem wd_447 : (Jvm.Cond.code ({ cls := "MeaningTypesModel", name := "combine", desc := "(IIII)I" } : Jvm.MethodName) prog_7_method_8_code (5 : Nat) (Option.some Jvm.ClassFile.FieldType.int)) ∈ gx_tG := gx_mem 447 (by decide +kernel) (by decide +kernel)
theorem wd_448 : (Jvm.Cond.methodLink "MeaningTypesModel" (56 : Nat) ({ cls := "MeaningTypesModel", name := "isType", desc := "(I)Z" } : Jvm.MethodName)) ∈ gx_tG := gx_mem 448 (by decide +kernel) (by decide +kernel)
theorem wd_450 : (Jvm.Cond.instanceMethod ({ cls := "MeaningTypesModel", name := "isType", desc := "(I)Z" } : Jvm.MethodName)) ∈ gx_tG := gx_mem 450 (by decide +kernel) (by decide +kernel)
theorem wd_451 : (Jvm.Cond.code ({ cls := "MeaningTypesModel", name := "isType", desc := "(I)Z" } : Jvm.MethodName) prog_7_method_5_code (2 : Nat) (Option.some Jvm.ClassFile.FieldType.boolean)) ∈ gx_tG := gx_mem 451 (by decide +kernel) (by decide +kernel)
theorem wd_452 : (Jvm.Cond.methodLink "MeaningTypesModel" (60 : Nat) ({ cls := "MeaningTypesModel", name := "deeper", desc := "(II)I" } : Jvm.MethodName)) ∈ gx_tG := gx_mem 452 (by decide +kernel) (by decide +kernel)
theorem wd_454 : (Jvm.Cond.instanceMethod ({ cls := "MeaningTypesModel", name := "deeper", desc := "(II)I" } : Jvm.MethodName)) ∈ gx_tG := gx_mem 454 (by decide +kernel) (by decide +kernel)
theorem wd_455 : (Jvm.Cond.code ({ cls := "MeaningTypesModel", name := "deeper", desc := "(II)I" } : Jvm.MethodName) prog_7_method_7_code (3 : Nat) (Option.some Jvm.ClassFile.FieldType.int)) ∈ gx_tG := gx_mem 455 (by decide +kernel) (by decide +kernel)
theorem wd_456 : (Jvm.Cond.methodLink "MeaningTypesLaw" (26 : Nat) ({ cls := "MeaningTypesModel", name := "arrow", desc := "(II)I" } : Jvm.MethodName)) ∈ gx_tG := gx_mem 456 (by decide +kernel) (by decide +kernel)
theorem wd_457 : (Jvm.Cond.instanceMethod ({ cls := "MeaningTypesModel", name := "arrow", desc := "(II)I" } : Jvm.MethodName)) ∈ gx_tG := gx_mem 457 (by decide +kernel) (by decide +kernel)
theorem wd_458 : (Jvm.Cond.selects "MeaningTypesModel" ({ cls := "MeaningTypesModel", name := "arrow", desc := "(II)I" } : Jvm.MethodName) ({ cls := "MeaningTypesModel", name := "arrow", desc := "(II)I" } : Jvm.MethodName)) ∈ gx_tG := gx_mem 458 (by decide +kernel) (by decide +kernel)
theorem wd_459 : (Jvm.Cond.code ({ cls := "MeaningTypesModel", name := "arrow", desc := "(II)I" } : Jvm.MethodName) prog_7_method_11_code (3 : Nat) (Option.some Jvm.ClassFile.FieldType.int)) ∈ gx_tG := gx_mem 459 (by decide +kernel) (by decide +kernel)
theorem wd_460 : (Jvm.Cond.methodLink "MeaningTypesLaw" (30 : Nat) ({ cls := "MeaningTypesModel", name := "union", desc := "(II)I" } : Jvm.MethodName)) ∈ gx_tG := gx_mem 460 (by decide +kernel) (by decide +kernel)
theorem wd_461 : (Jvm.Cond.instanceMethod ({ cls := "MeaningTypesModel", name := "union", desc := "(II)I" } : Jvm.MethodName)) ∈ gx_tG := gx_mem 461 (by decide +kernel) (by decide +kernel)
theorem wd_462 : (Jvm.Cond.selects "MeaningTypesModel" ({ cls := "MeaningTypesModel", name := "union", desc := "(II)I" } : Jvm.MethodName) ({ cls := "MeaningTypesModel", name := "union", desc := "(II)I" } : Jvm.MethodName)) ∈ gx_tG := gx_mem 462 (by decide +kernel) (by decide +kernel)
theorem wd_463 : (Jvm.Cond.code ({ cls := "MeaningTypesModel", name := "union", desc := "(II)I" } : Jvm.MethodName) prog_7_method_12_code (3 : Nat) (Option.some Jvm.ClassFile.FieldType.int)) ∈ gx_tG := gx_mem 463 (by decide +kernel) (by decide +kernel)
theorem wd_464 : (Jvm.Cond.methodLink "MeaningTypesLaw" (34 : Nat) ({ cls := "MeaningTypesModel", name := "meet", desc := "(II)I" } : Jvm.MethodName)) ∈ gx_tG := gx_mem 464 (by decide +kernel) (by decide +kernel)
theorem wd_465 : (Jvm.Cond.instanceMethod ({ cls := "MeaningTypesModel", name := "meet", desc := "(II)I" } : Jvm.MethodName)) ∈ gx_tG := gx_mem 465 (by decide +kernel) (by decide +kernel)
theorem wd_466 : (Jvm.Cond.selects "MeaningTypesModel" ({ cls := "MeaningTypesModel", name := "meet", desc := "(II)I" } : Jvm.MethodName) ({ cls := "MeaningTypesModel", name := "meet", desc := "(II)I" } : Jvm.MethodName)) ∈ gx_tG := gx_mem 466 (by decide +kernel) (by decide +kernel)
theorem wd_467 : (Jvm.Cond.code ({ cls := "MeaningTypesModel", name := "meet", desc := "(II)I" } : Jvm.MethodName) prog_7_method_13_code (3 : Nat) (Option.some Jvm.ClassFile.FieldType.int)) ∈ gx_tG := gx_mem 467 (by decide +kernel) (by decide +kernel)
theorem wd_468 : (Jvm.Cond.methodLink "MeaningTypesLaw" (38 : Nat) ({ cls := "MeaningTypesModel", name := "not", desc := "(I)I" } : Jvm.MethodName)) ∈ gx_tG := gx_mem 468 (by decide +kernel) (by decide +kernel)
theorem wd_469 : (Jvm.Cond.instanceMethod ({ cls := "MeaningTypesModel", name := "not", desc := "(I)I" } : Jvm.MethodName)) ∈ gx_tG := gx_mem 469 (by decide +kernel) (by decide +kernel)
theorem wd_470 : (Jvm.Cond.selects "MeaningTypesModel" ({ cls := "MeaningTypesModel", name := "not", desc := "(I)I" } : Jvm.MethodName) ({ cls := "MeaningTypesModel", name := "not", desc := "(I)I" } : Jvm.MethodName)) ∈ gx_tG := gx_mem 470 (by decide +kernel) (by decide +kernel)
theorem wd_471 : (Jvm.Cond.code ({ cls := "MeaningTypesModel", name := "not", desc := "(I)I" } : Jvm.MethodName) prog_7_method_14_code (2 : Nat) (Option.some Jvm.ClassFile.FieldType.int)) ∈ gx_tG := gx_mem 471 (by decide +kernel) (by decide +kernel)
theorem wd_472 : (Jvm.Cond.methodLink "MeaningTypesLaw" (43 : Nat) ({ cls := "MeaningTypesModel", name := "any", desc := "()I" } : Jvm.MethodName)) ∈ gx_tG := gx_mem 472 (by decide +kernel) (by decide +kernel)
theorem wd_473 : (Jvm.Cond.instanceMethod ({ cls := "MeaningTypesModel", name := "any", desc := "()I" } : Jvm.MethodName)) ∈ gx_tG := gx_mem 473 (by decide +kernel) (by decide +kernel)
theorem wd_474 : (Jvm.Cond.selects "MeaningTypesModel" ({ cls := "MeaningTypesModel", name := "any", desc := "()I" } : Jvm.MethodName) ({ cls := "MeaningTypesModel", name := "any", desc := "()I" } : Jvm.MethodName)) ∈ gx_tG := gx_mem 474 (by decide +kernel) (by decide +kernel)
theorem wd_475 : (Jvm.Cond.code ({ cls := "MeaningTypesModel", name := "any", desc := "()I" } : Jvm.MethodName) prog_7_method_15_code (1 : Nat) (Option.some Jvm.ClassFile.FieldType.int)) ∈ gx_tG := gx_mem 475 (by decide +kernel) (by decide +kernel)
theorem wd_476 : (Jvm.Cond.methodLink "MeaningTypesLaw" (47 : Nat) ({ cls := "MeaningTypesModel", name := "types", desc := "()I" } : Jvm.MethodName)) ∈ gx_tG := gx_mem 476 (by decide +kernel) (by decide +kernel)
theorem wd_477 : (Jvm.Cond.instanceMethod ({ cls := "MeaningTypesModel", name := "types", desc := "()I" } : Jvm.MethodName)) ∈ gx_tG := gx_mem 477 (by decide +kernel) (by decide +kernel)
theorem wd_478 : (Jvm.Cond.selects "MeaningTypesModel" ({ cls := "MeaningTypesModel", name := "types", desc := "()I" } : Jvm.MethodName) ({ cls := "MeaningTypesModel", name := "types", desc := "()I" } : Jvm.MethodName)) ∈ gx_tG := gx_mem 478 (by decide +kernel) (by decide +kernel)
theorem wd_479 : (Jvm.Cond.code ({ cls := "MeaningTypesModel", name := "types", desc := "()I" } : Jvm.MethodName) prog_7_method_16_code (1 : Nat) (Option.some Jvm.ClassFile.FieldType.int)) ∈ gx_tG := gx_mem 479 (by decide +kernel) (by decide +kernel)
theorem wd_480 : (Jvm.Cond.methodLink "MeaningTypesLaw" (52 : Nat) ({ cls := "MeaningTypesModel", name := "empty", desc := "(I)Z" } : Jvm.MethodName)) ∈ gx_tG := gx_mem 480 (by decide +kernel) (by decide +kernel)
theorem wd_481 : (Jvm.Cond.instanceMethod ({ cls := "MeaningTypesModel", name := "empty", desc := "(I)Z" } : Jvm.MethodName)) ∈ gx_tG := gx_mem 481 (by decide +kernel) (by decide +kernel)
theorem wd_482 : (Jvm.Cond.selects "MeaningTypesModel" ({ cls := "MeaningTypesModel", name := "empty", desc := "(I)Z" } : Jvm.MethodName) ({ cls := "MeaningTypesModel", name := "empty", desc := "(I)Z" } : Jvm.MethodName)) ∈ gx_tG := gx_mem 482 (by decide +kernel) (by decide +kernel)
theorem wd_483 : (Jvm.Cond.code ({ cls := "MeaningTypesModel", name := "empty", desc := "(I)Z" } : Jvm.MethodName) prog_7_method_27_code (2 : Nat) (Option.some Jvm.ClassFile.FieldType.boolean)) ∈ gx_tG := gx_mem 483 (by decide +kernel) (by decide +kernel)
theorem wd_484 : (Jvm.Cond.methodLink "MeaningTypesModel" (112 : Nat) ({ cls := "MeaningTypesModel", name := "work", desc := "(I)V" } : Jvm.MethodName)) ∈ gx_tG := gx_mem 484 (by decide +kernel) (by decide +kernel)
theorem wd_486 : (Jvm.Cond.instanceMethod ({ cls := "MeaningTypesModel", name := "work", desc := "(I)V" } : Jvm.MethodName)) ∈ gx_tG := gx_mem 486 (by decide +kernel) (by decide +kernel)
theorem wd_487 : (Jvm.Cond.code ({ cls := "MeaningTypesModel", name := "work", desc := "(I)V" } : Jvm.MethodName) prog_7_method_25_code (3 : Nat) (Option.none : Option Jvm.ClassFile.FieldType)) ∈ gx_tG := gx_mem 487 (by decide +kernel) (by decide +kernel)
theorem wd_488 : (Jvm.Cond.methodLink "MeaningTypesModel" (99 : Nat) ({ cls := "MeaningTypesModel", name := "number", desc := "(I)V" } : Jvm.MethodName)) ∈ gx_tG := gx_mem 488 (by decide +kernel) (by decide +kernel)
theorem wd_490 : (Jvm.Cond.instanceMethod ({ cls := "MeaningTypesModel", name := "number", desc := "(I)V" } : Jvm.MethodName)) ∈ gx_tG := gx_mem 490 (by decide +kernel) (by decide +kernel)
theorem wd_491 : (Jvm.Cond.code ({ cls := "MeaningTypesModel", name := "number", desc := "(I)V" } : Jvm.MethodName) prog_7_method_19_code (3 : Nat) (Option.none : Option Jvm.ClassFile.FieldType)) ∈ gx_tG := gx_mem 491 (by decide +kernel) (by decide +kernel)
theorem wd_492 : (Jvm.Cond.methodLink "MeaningTypesModel" (77 : Nat) ({ cls := "MeaningTypesModel", name := "clear", desc := "(I)V" } : Jvm.MethodName)) ∈ gx_tG := gx_mem 492 (by decide +kernel) (by decide +kernel)
theorem wd_494 : (Jvm.Cond.instanceMethod ({ cls := "MeaningTypesModel", name := "clear", desc := "(I)V" } : Jvm.MethodName)) ∈ gx_tG := gx_mem 494 (by decide +kernel) (by decide +kernel)
theorem wd_495 : (Jvm.Cond.code ({ cls := "MeaningTypesModel", name := "clear", desc := "(I)V" } : Jvm.MethodName) prog_7_method_4_code (3 : Nat) (Option.none : Option Jvm.ClassFile.FieldType)) ∈ gx_tG := gx_mem 495 (by decide +kernel) (by decide +kernel)
theorem wd_496 : (Jvm.Cond.methodLink "MeaningTypesModel" (89 : Nat) ({ cls := "MeaningTypesModel", name := "put", desc := "(II)Z" } : Jvm.MethodName)) ∈ gx_tG := gx_mem 496 (by decide +kernel) (by decide +kernel)
theorem wd_498 : (Jvm.Cond.instanceMethod ({ cls := "MeaningTypesModel", name := "put", desc := "(II)Z" } : Jvm.MethodName)) ∈ gx_tG := gx_mem 498 (by decide +kernel) (by decide +kernel)
theorem wd_499 : (Jvm.Cond.code ({ cls := "MeaningTypesModel", name := "put", desc := "(II)Z" } : Jvm.MethodName) prog_7_method_3_code (4 : Nat) (Option.some Jvm.ClassFile.FieldType.boolean)) ∈ gx_tG := gx_mem 499 (by decide +kernel) (by decide +kernel)
theorem wd_500 : (Jvm.Cond.methodLink "MeaningTypesModel" (45 : Nat) ({ cls := "MeaningTypesModel", name := "has", desc := "(II)Z" } : Jvm.MethodName)) ∈ gx_tG := gx_mem 500 (by decide +kernel) (by decide +kernel)
theorem wd_502 : (Jvm.Cond.instanceMethod ({ cls := "MeaningTypesModel", name := "has", desc := "(II)Z" } : Jvm.MethodName)) ∈ gx_tG := gx_mem 502 (by decide +kernel) (by decide +kernel)
theorem wd_503 : (Jvm.Cond.code ({ cls := "MeaningTypesModel", name := "has", desc := "(II)Z" } : Jvm.MethodName) prog_7_method_2_code (3 : Nat) (Option.some Jvm.ClassFile.FieldType.boolean)) ∈ gx_tG := gx_mem 503 (by decide +kernel) (by decide +kernel)
theorem wd_504 : (Jvm.Cond.methodLink "MeaningTypesModel" (102 : Nat) ({ cls := "MeaningTypesModel", name := "collect", desc := "(I)V" } : Jvm.MethodName)) ∈ gx_tG := gx_mem 504 (by decide +kernel) (by decide +kernel)
theorem wd_506 : (Jvm.Cond.instanceMethod ({ cls := "MeaningTypesModel", name := "collect", desc := "(I)V" } : Jvm.MethodName)) ∈ gx_tG := gx_mem 506 (by decide +kernel) (by decide +kernel)
theorem wd_507 : (Jvm.Cond.code ({ cls := "MeaningTypesModel", name := "collect", desc := "(I)V" } : Jvm.MethodName) prog_7_method_20_code (3 : Nat) (Option.none : Option Jvm.ClassFile.FieldType)) ∈ gx_tG := gx_mem 507 (by decide +kernel) (by decide +kernel)
theorem wd_508 : (Jvm.Cond.methodLink "MeaningTypesModel" (81 : Nat) ({ cls := "MeaningTypesModel", name := "rowOf", desc := "(III)I" } : Jvm.MethodName)) ∈ gx_tG := gx_mem 508 (by decide +kernel) (by decide +kernel)
theorem wd_510 : (Jvm.Cond.instanceMethod ({ cls := "MeaningTypesModel", name := "rowOf", desc := "(III)I" } : Jvm.MethodName)) ∈ gx_tG := gx_mem 510 (by decide +kernel) (by decide +kernel)
theorem wd_511 : (Jvm.Cond.code ({ cls := "MeaningTypesModel", name := "rowOf", desc := "(III)I" } : Jvm.MethodName) prog_7_method_17_code (10 : Nat) (Option.some Jvm.ClassFile.FieldType.int)) ∈ gx_tG := gx_mem 511 (by decide +kernel) (by decide +kernel)
theorem wd_512 : (Jvm.Cond.methodLink "MeaningTypesModel" (85 : Nat) ({ cls := "MeaningTypesModel", name := "enter", desc := "(II)V" } : Jvm.MethodName)) ∈ gx_tG := gx_mem 512 (by decide +kernel) (by decide +kernel)
theorem wd_514 : (Jvm.Cond.instanceMethod ({ cls := "MeaningTypesModel", name := "enter", desc := "(II)V" } : Jvm.MethodName)) ∈ gx_tG := gx_mem 514 (by decide +kernel) (by decide +kernel)
theorem wd_515 : (Jvm.Cond.code ({ cls := "MeaningTypesModel", name := "enter", desc := "(II)V" } : Jvm.MethodName) prog_7_method_21_code (3 : Nat) (Option.none : Option Jvm.ClassFile.FieldType)) ∈ gx_tG := gx_mem 515 (by decide +kernel) (by decide +kernel)
theorem wd_516 : (Jvm.Cond.methodLink "MeaningTypesModel" (92 : Nat) ({ cls := "MeaningTypesModel", name := "parts", desc := "(IIZI)I" } : Jvm.MethodName)) ∈ gx_tG := gx_mem 516 (by decide +kernel) (by decide +kernel)
theorem wd_518 : (Jvm.Cond.instanceMethod ({ cls := "MeaningTypesModel", name := "parts", desc := "(IIZI)I" } : Jvm.MethodName)) ∈ gx_tG := gx_mem 518 (by decide +kernel) (by decide +kernel)
theorem wd_519 : (Jvm.Cond.code ({ cls := "MeaningTypesModel", name := "parts", desc := "(IIZI)I" } : Jvm.MethodName) prog_7_method_18_code (8 : Nat) (Option.some Jvm.ClassFile.FieldType.int)) ∈ gx_tG := gx_mem 519 (by decide +kernel) (by decide +kernel)
theorem wd_520 : (Jvm.Cond.methodLink "MeaningTypesModel" (105 : Nat) ({ cls := "MeaningTypesModel", name := "makePairs", desc := "()Z" } : Jvm.MethodName)) ∈ gx_tG := gx_mem 520 (by decide +kernel) (by decide +kernel)
theorem wd_522 : (Jvm.Cond.instanceMethod ({ cls := "MeaningTypesModel", name := "makePairs", desc := "()Z" } : Jvm.MethodName)) ∈ gx_tG := gx_mem 522 (by decide +kernel) (by decide +kernel)
theorem wd_523 : (Jvm.Cond.code ({ cls := "MeaningTypesModel", name := "makePairs", desc := "()Z" } : Jvm.MethodName) prog_7_method_22_code (4 : Nat) (Option.some Jvm.ClassFile.FieldType.boolean)) ∈ gx_tG := gx_mem 523 (by decide +kernel) (by decide +kernel)
theorem wd_524 : (Jvm.Cond.methodLink "MeaningTypesModel" (109 : Nat) ({ cls := "MeaningTypesModel", name := "makeFunctions", desc := "()Z" } : Jvm.MethodName)) ∈ gx_tG := gx_mem 524 (by decide +kernel) (by decide +kernel)
theorem wd_526 : (Jvm.Cond.instanceMethod ({ cls := "MeaningTypesModel", name := "makeFunctions", desc := "()Z" } : Jvm.MethodName)) ∈ gx_tG := gx_mem 526 (by decide +kernel) (by decide +kernel)
theorem wd_527 : (Jvm.Cond.code ({ cls := "MeaningTypesModel", name := "makeFunctions", desc := "()Z" } : Jvm.MethodName) prog_7_method_23_code (4 : Nat) (Option.some Jvm.ClassFile.FieldType.boolean)) ∈ gx_tG := gx_mem 527 (by decide +kernel) (by decide +kernel)
theorem wd_528 : (Jvm.Cond.methodLink "MeaningTypesModel" (96 : Nat) ({ cls := "MeaningTypesModel", name := "addStep", desc := "(I)Z" } : Jvm.MethodName)) ∈ gx_tG := gx_mem 528 (by decide +kernel) (by decide +kernel)
theorem wd_530 : (Jvm.Cond.instanceMethod ({ cls := "MeaningTypesModel", name := "addStep", desc := "(I)Z" } : Jvm.MethodName)) ∈ gx_tG := gx_mem 530 (by decide +kernel) (by decide +kernel)
theorem wd_531 : (Jvm.Cond.code ({ cls := "MeaningTypesModel", name := "addStep", desc := "(I)Z" } : Jvm.MethodName) prog_7_method_24_code (3 : Nat) (Option.some Jvm.ClassFile.FieldType.boolean)) ∈ gx_tG := gx_mem 531 (by decide +kernel) (by decide +kernel)
theorem wd_532 : (Jvm.Cond.methodLink "MeaningTypesModel" (115 : Nat) ({ cls := "MeaningTypesModel", name := "meets", desc := "(IIZ)Z" } : Jvm.MethodName)) ∈ gx_tG := gx_mem 532 (by decide +kernel) (by decide +kernel)
theorem wd_534 : (Jvm.Cond.instanceMethod ({ cls := "MeaningTypesModel", name := "meets", desc := "(IIZ)Z" } : Jvm.MethodName)) ∈ gx_tG := gx_mem 534 (by decide +kernel) (by decide +kernel)
theorem wd_535 : (Jvm.Cond.code ({ cls := "MeaningTypesModel", name := "meets", desc := "(IIZ)Z" } : Jvm.MethodName) prog_7_method_26_code (7 : Nat) (Option.some Jvm.ClassFile.FieldType.boolean)) ∈ gx_tG := gx_mem 535 (by decide +kernel) (by decide +kernel)
theorem wd_536 : (Jvm.Cond.methodLink "MeaningTypesLaw" (57 : Nat) ({ cls := "MeaningTypesModel", name := "within", desc := "(II)Z" } : Jvm.MethodName)) ∈ gx_tG := gx_mem 536 (by decide +kernel) (by decide +kernel)
theorem wd_537 : (Jvm.Cond.instanceMethod ({ cls := "MeaningTypesModel", name := "within", desc := "(II)Z" } : Jvm.MethodName)) ∈ gx_tG := gx_mem 537 (by decide +kernel) (by decide +kernel)
theorem wd_538 : (Jvm.Cond.selects "MeaningTypesModel" ({ cls := "MeaningTypesModel", name := "within", desc := "(II)Z" } : Jvm.MethodName) ({ cls := "MeaningTypesModel", name := "within", desc := "(II)Z" } : Jvm.MethodName)) ∈ gx_tG := gx_mem 538 (by decide +kernel) (by decide +kernel)
theorem wd_539 : (Jvm.Cond.code ({ cls := "MeaningTypesModel", name := "within", desc := "(II)Z" } : Jvm.MethodName) prog_7_method_29_code (3 : Nat) (Option.some Jvm.ClassFile.FieldType.boolean)) ∈ gx_tG := gx_mem 539 (by decide +kernel) (by decide +kernel)
theorem wd_540 : (Jvm.Cond.methodLink "MeaningTypesModel" (119 : Nat) ({ cls := "MeaningTypesModel", name := "lies", desc := "(II)Z" } : Jvm.MethodName)) ∈ gx_tG := gx_mem 540 (by decide +kernel) (by decide +kernel)
theorem wd_542 : (Jvm.Cond.instanceMethod ({ cls := "MeaningTypesModel", name := "lies", desc := "(II)Z" } : Jvm.MethodName)) ∈ gx_tG := gx_mem 542 (by decide +kernel) (by decide +kernel)
theorem wd_543 : (Jvm.Cond.code ({ cls := "MeaningTypesModel", name := "lies", desc := "(II)Z" } : Jvm.MethodName) prog_7_method_28_code (3 : Nat) (Option.some Jvm.ClassFile.FieldType.boolean)) ∈ gx_tG := gx_mem 543 (by decide +kernel) (by decide +kernel)
theorem wd_544 : (Jvm.Cond.methodLink "MeaningTypesLaw" (61 : Nat) ({ cls := "MeaningTypesModel", name := "compare", desc := "(II)I" } : Jvm.MethodName)) ∈ gx_tG := gx_mem 544 (by decide +kernel) (by decide +kernel)
theorem wd_545 : (Jvm.Cond.instanceMethod ({ cls := "MeaningTypesModel", name := "compare", desc := "(II)I" } : Jvm.MethodName)) ∈ gx_tG := gx_mem 545 (by decide +kernel) (by decide +kernel)
theorem wd_546 : (Jvm.Cond.selects "MeaningTypesModel" ({ cls := "MeaningTypesModel", name := "compare", desc := "(II)I" } : Jvm.MethodName) ({ cls := "MeaningTypesModel", name := "compare", desc := "(II)I" } : Jvm.MethodName)) ∈ gx_tG := gx_mem 546 (by decide +kernel) (by decide +kernel)
theorem wd_547 : (Jvm.Cond.code ({ cls := "MeaningTypesModel", name := "compare", desc := "(II)I" } : Jvm.MethodName) prog_7_method_30_code (5 : Nat) (Option.some Jvm.ClassFile.FieldType.int)) ∈ gx_tG := gx_mem 547 (by decide +kernel) (by decide +kernel)
theorem wd_548 : (Jvm.Cond.methodLink "MeaningTypesLaw" (66 : Nat) ({ cls := "MeaningTypesModel", name := "answers", desc := "(III)Z" } : Jvm.MethodName)) ∈ gx_tG := gx_mem 548 (by decide +kernel) (by decide +kernel)
theorem wd_549 : (Jvm.Cond.instanceMethod ({ cls := "MeaningTypesModel", name := "answers", desc := "(III)Z" } : Jvm.MethodName)) ∈ gx_tG := gx_mem 549 (by decide +kernel) (by decide +kernel)
theorem wd_550 : (Jvm.Cond.selects "MeaningTypesModel" ({ cls := "MeaningTypesModel", name := "answers", desc := "(III)Z" } : Jvm.MethodName) ({ cls := "MeaningTypesModel", name := "answers", desc := "(III)Z" } : Jvm.MethodName)) ∈ gx_tG := gx_mem 550 (by decide +kernel) (by decide +kernel)
theorem wd_551 : (Jvm.Cond.code ({ cls := "MeaningTypesModel", name := "answers", desc := "(III)Z" } : Jvm.MethodName) prog_7_method_31_code (5 : Nat) (Option.some Jvm.ClassFile.FieldType.boolean)) ∈ gx_tG := gx_mem 551 (by decide +kernel) (by decide +kernel)
theorem wd_552 : (Jvm.Cond.methodLink "MeaningTypesLaw" (70 : Nat) ({ cls := "MeaningTypesModel", name := "constant", desc := "(I)I" } : Jvm.MethodName)) ∈ gx_tG := gx_mem 552 (by decide +kernel) (by decide +kernel)
theorem wd_553 : (Jvm.Cond.instanceMethod ({ cls := "MeaningTypesModel", name := "constant", desc := "(I)I" } : Jvm.MethodName)) ∈ gx_tG := gx_mem 553 (by decide +kernel) (by decide +kernel)
theorem wd_554 : (Jvm.Cond.selects "MeaningTypesModel" ({ cls := "MeaningTypesModel", name := "constant", desc := "(I)I" } : Jvm.MethodName) ({ cls := "MeaningTypesModel", name := "constant", desc := "(I)I" } : Jvm.MethodName)) ∈ gx_tG := gx_mem 554 (by decide +kernel) (by decide +kernel)
theorem wd_555 : (Jvm.Cond.code ({ cls := "MeaningTypesModel", name := "constant", desc := "(I)I" } : Jvm.MethodName) prog_7_method_34_code (2 : Nat) (Option.some Jvm.ClassFile.FieldType.int)) ∈ gx_tG := gx_mem 555 (by decide +kernel) (by decide +kernel)
theorem wd_556 : (Jvm.Cond.methodLink "MeaningTypesModel" (125 : Nat) ({ cls := "MeaningTypesModel", name := "addValue", desc := "(IIII)I" } : Jvm.MethodName)) ∈ gx_tG := gx_mem 556 (by decide +kernel) (by decide +kernel)
theorem wd_558 : (Jvm.Cond.instanceMethod ({ cls := "MeaningTypesModel", name := "addValue", desc := "(IIII)I" } : Jvm.MethodName)) ∈ gx_tG := gx_mem 558 (by decide +kernel) (by decide +kernel)
theorem wd_559 : (Jvm.Cond.code ({ cls := "MeaningTypesModel", name := "addValue", desc := "(IIII)I" } : Jvm.MethodName) prog_7_method_33_code (5 : Nat) (Option.some Jvm.ClassFile.FieldType.int)) ∈ gx_tG := gx_mem 559 (by decide +kernel) (by decide +kernel)
theorem wd_560 : (Jvm.Cond.methodLink "MeaningTypesLaw" (74 : Nat) ({ cls := "MeaningTypesModel", name := "pair", desc := "(II)I" } : Jvm.MethodName)) ∈ gx_tG := gx_mem 560 (by decide +kernel) (by decide +kernel)
theorem wd_561 : (Jvm.Cond.instanceMethod ({ cls := "MeaningTypesModel", name := "pair", desc := "(II)I" } : Jvm.MethodName)) ∈ gx_tG := gx_mem 561 (by decide +kernel) (by decide +kernel)
theorem wd_562 : (Jvm.Cond.selects "MeaningTypesModel" ({ cls := "MeaningTypesModel", name := "pair", desc := "(II)I" } : Jvm.MethodName) ({ cls := "MeaningTypesModel", name := "pair", desc := "(II)I" } : Jvm.MethodName)) ∈ gx_tG := gx_mem 562 (by decide +kernel) (by decide +kernel)
theorem wd_563 : (Jvm.Cond.code ({ cls := "MeaningTypesModel", name := "pair", desc := "(II)I" } : Jvm.MethodName) prog_7_method_35_code (3 : Nat) (Option.some Jvm.ClassFile.FieldType.int)) ∈ gx_tG := gx_mem 563 (by decide +kernel) (by decide +kernel)
theorem wd_564 : (Jvm.Cond.methodLink "MeaningTypesModel" (128 : Nat) ({ cls := "MeaningTypesModel", name := "isValue", desc := "(I)Z" } : Jvm.MethodName)) ∈ gx_tG := gx_mem 564 (by decide +kernel) (by decide +kernel)
theorem wd_566 : (Jvm.Cond.instanceMethod ({ cls := "MeaningTypesModel", name := "isValue", desc := "(I)Z" } : Jvm.MethodName)) ∈ gx_tG := gx_mem 566 (by decide +kernel) (by decide +kernel)
theorem wd_567 : (Jvm.Cond.code ({ cls := "MeaningTypesModel", name := "isValue", desc := "(I)Z" } : Jvm.MethodName) prog_7_method_32_code (2 : Nat) (Option.some Jvm.ClassFile.FieldType.boolean)) ∈ gx_tG := gx_mem 567 (by decide +kernel) (by decide +kernel)
theorem wd_568 : (Jvm.Cond.methodLink "MeaningTypesLaw" (78 : Nat) ({ cls := "MeaningTypesModel", name := "function", desc := "(I)I" } : Jvm.MethodName)) ∈ gx_tG := gx_mem 568 (by decide +kernel) (by decide +kernel)
theorem wd_569 : (Jvm.Cond.instanceMethod ({ cls := "MeaningTypesModel", name := "function", desc := "(I)I" } : Jvm.MethodName)) ∈ gx_tG := gx_mem 569 (by decide +kernel) (by decide +kernel)
theorem wd_570 : (Jvm.Cond.selects "MeaningTypesModel" ({ cls := "MeaningTypesModel", name := "function", desc := "(I)I" } : Jvm.MethodName) ({ cls := "MeaningTypesModel", name := "function", desc := "(I)I" } : Jvm.MethodName)) ∈ gx_tG := gx_mem 570 (by decide +kernel) (by decide +kernel)
theorem wd_571 : (Jvm.Cond.code ({ cls := "MeaningTypesModel", name := "function", desc := "(I)I" } : Jvm.MethodName) prog_7_method_36_code (2 : Nat) (Option.some Jvm.ClassFile.FieldType.int)) ∈ gx_tG := gx_mem 571 (by decide +kernel) (by decide +kernel)
theorem wd_572 : (Jvm.Cond.methodLink "MeaningTypesLaw" (82 : Nat) ({ cls := "MeaningTypesModel", name := "belongs", desc := "(II)Z" } : Jvm.MethodName)) ∈ gx_tG := gx_mem 572 (by decide +kernel) (by decide +kernel)
theorem wd_573 : (Jvm.Cond.instanceMethod ({ cls := "MeaningTypesModel", name := "belongs", desc := "(II)Z" } : Jvm.MethodName)) ∈ gx_tG := gx_mem 573 (by decide +kernel) (by decide +kernel)
theorem wd_574 : (Jvm.Cond.selects "MeaningTypesModel" ({ cls := "MeaningTypesModel", name := "belongs", desc := "(II)Z" } : Jvm.MethodName) ({ cls := "MeaningTypesModel", name := "belongs", desc := "(II)Z" } : Jvm.MethodName)) ∈ gx_tG := gx_mem 574 (by decide +kernel) (by decide +kernel)
theorem wd_575 : (Jvm.Cond.code ({ cls := "MeaningTypesModel", name := "belongs", desc := "(II)Z" } : Jvm.MethodName) prog_7_method_41_code (3 : Nat) (Option.some Jvm.ClassFile.FieldType.boolean)) ∈ gx_tG := gx_mem 575 (by decide +kernel) (by decide +kernel)
theorem wd_576 : (Jvm.Cond.methodLink "MeaningTypesModel" (138 : Nat) ({ cls := "MeaningTypesModel", name := "prepare", desc := "(I)V" } : Jvm.MethodName)) ∈ gx_tG := gx_mem 576 (by decide +kernel) (by decide +kernel)
theorem wd_578 : (Jvm.Cond.instanceMethod ({ cls := "MeaningTypesModel", name := "prepare", desc := "(I)V" } : Jvm.MethodName)) ∈ gx_tG := gx_mem 578 (by decide +kernel) (by decide +kernel)
theorem wd_579 : (Jvm.Cond.code ({ cls := "MeaningTypesModel", name := "prepare", desc := "(I)V" } : Jvm.MethodName) prog_7_method_39_code (3 : Nat) (Option.none : Option Jvm.ClassFile.FieldType)) ∈ gx_tG := gx_mem 579 (by decide +kernel) (by decide +kernel)
theorem wd_580 : (Jvm.Cond.methodLink "MeaningTypesModel" (135 : Nat) ({ cls := "MeaningTypesModel", name := "sortRows", desc := "(I)V" } : Jvm.MethodName)) ∈ gx_tG := gx_mem 580 (by decide +kernel) (by decide +kernel)
theorem wd_582 : (Jvm.Cond.instanceMethod ({ cls := "MeaningTypesModel", name := "sortRows", desc := "(I)V" } : Jvm.MethodName)) ∈ gx_tG := gx_mem 582 (by decide +kernel) (by decide +kernel)
theorem wd_583 : (Jvm.Cond.code ({ cls := "MeaningTypesModel", name := "sortRows", desc := "(I)V" } : Jvm.MethodName) prog_7_method_37_code (4 : Nat) (Option.none : Option Jvm.ClassFile.FieldType)) ∈ gx_tG := gx_mem 583 (by decide +kernel) (by decide +kernel)
theorem wd_584 : (Jvm.Cond.methodLink "MeaningTypesModel" (131 : Nat) ({ cls := "MeaningTypesModel", name := "pairRows", desc := "(III)V" } : Jvm.MethodName)) ∈ gx_tG := gx_mem 584 (by decide +kernel) (by decide +kernel)
theorem wd_586 : (Jvm.Cond.instanceMethod ({ cls := "MeaningTypesModel", name := "pairRows", desc := "(III)V" } : Jvm.MethodName)) ∈ gx_tG := gx_mem 586 (by decide +kernel) (by decide +kernel)
theorem wd_587 : (Jvm.Cond.code ({ cls := "MeaningTypesModel", name := "pairRows", desc := "(III)V" } : Jvm.MethodName) prog_7_method_38_code (5 : Nat) (Option.none : Option Jvm.ClassFile.FieldType)) ∈ gx_tG := gx_mem 587 (by decide +kernel) (by decide +kernel)
theorem wd_588 : (Jvm.Cond.methodLink "MeaningTypesModel" (141 : Nat) ({ cls := "MeaningTypesModel", name := "isIn", desc := "(II)Z" } : Jvm.MethodName)) ∈ gx_tG := gx_mem 588 (by decide +kernel) (by decide +kernel)
theorem wd_590 : (Jvm.Cond.instanceMethod ({ cls := "MeaningTypesModel", name := "isIn", desc := "(II)Z" } : Jvm.MethodName)) ∈ gx_tG := gx_mem 590 (by decide +kernel) (by decide +kernel)
theorem wd_591 : (Jvm.Cond.code ({ cls := "MeaningTypesModel", name := "isIn", desc := "(II)Z" } : Jvm.MethodName) prog_7_method_40_code (5 : Nat) (Option.some Jvm.ClassFile.FieldType.boolean)) ∈ gx_tG := gx_mem 591 (by decide +kernel) (by decide +kernel)
theorem wd_592 : (Jvm.Cond.methodLink "MeaningTypesLaw" (87 : Nat) ({ cls := "MeaningTypesModel", name := "match", desc := "(IIII)I" } : Jvm.MethodName)) ∈ gx_tG := gx_mem 592 (by decide +kernel) (by decide +kernel)
theorem wd_593 : (Jvm.Cond.instanceMethod ({ cls := "MeaningTypesModel", name := "match", desc := "(IIII)I" } : Jvm.MethodName)) ∈ gx_tG := gx_mem 593 (by decide +kernel) (by decide +kernel)
theorem wd_594 : (Jvm.Cond.selects "MeaningTypesModel" ({ cls := "MeaningTypesModel", name := "match", desc := "(IIII)I" } : Jvm.MethodName) ({ cls := "MeaningTypesModel", name := "match", desc := "(IIII)I" } : Jvm.MethodName)) ∈ gx_tG := gx_mem 594 (by decide +kernel) (by decide +kernel)
theorem wd_595 : (Jvm.Cond.code ({ cls := "MeaningTypesModel", name := "match", desc := "(IIII)I" } : Jvm.MethodName) prog_7_method_42_code (5 : Nat) (Option.some Jvm.ClassFile.FieldType.int)) ∈ gx_tG := gx_mem 595 (by decide +kernel) (by decide +kernel)
theorem wd_596 : (Jvm.Cond.methodLink "MeaningTypesLaw" (91 : Nat) ({ cls := "MeaningTypesModel", name := "sorts", desc := "(I)I" } : Jvm.MethodName)) ∈ gx_tG := gx_mem 596 (by decide +kernel) (by decide +kernel)
theorem wd_597 : (Jvm.Cond.instanceMethod ({ cls := "MeaningTypesModel", name := "sorts", desc := "(I)I" } : Jvm.MethodName)) ∈ gx_tG := gx_mem 597 (by decide +kernel) (by decide +kernel)
theorem wd_598 : (Jvm.Cond.selects "MeaningTypesModel" ({ cls := "MeaningTypesModel", name := "sorts", desc := "(I)I" } : Jvm.MethodName) ({ cls := "MeaningTypesModel", name := "sorts", desc := "(I)I" } : Jvm.MethodName)) ∈ gx_tG := gx_mem 598 (by decide +kernel) (by decide +kernel)
theorem wd_599 : (Jvm.Cond.code ({ cls := "MeaningTypesModel", name := "sorts", desc := "(I)I" } : Jvm.MethodName) prog_7_method_43_code (4 : Nat) (Option.some Jvm.ClassFile.FieldType.int)) ∈ gx_tG := gx_mem 599 (by decide +kernel) (by decide +kernel)
theorem wd_600 : (Jvm.Cond.methodLink "MeaningTypesLaw" (95 : Nat) ({ cls := "MeaningTypesModel", name := "cut", desc := "(I)I" } : Jvm.MethodName)) ∈ gx_tG := gx_mem 600 (by decide +kernel) (by decide +kernel)
theorem wd_601 : (Jvm.Cond.instanceMethod ({ cls := "MeaningTypesModel", name := "cut", desc := "(I)I" } : Jvm.MethodName)) ∈ gx_tG := gx_mem 601 (by decide +kernel) (by decide +kernel)
theorem wd_602 : (Jvm.Cond.selects "MeaningTypesModel" ({ cls := "MeaningTypesModel", name := "cut", desc := "(I)I" } : Jvm.MethodName) ({ cls := "MeaningTypesModel", name := "cut", desc := "(I)I" } : Jvm.MethodName)) ∈ gx_tG := gx_mem 602 (by decide +kernel) (by decide +kernel)
theorem wd_603 : (Jvm.Cond.code ({ cls := "MeaningTypesModel", name := "cut", desc := "(I)I" } : Jvm.MethodName) prog_7_method_44_code (2 : Nat) (Option.some Jvm.ClassFile.FieldType.int)) ∈ gx_tG := gx_mem 603 (by decide +kernel) (by decide +kernel)
theorem ws_0 : (Jvm.Cond.selects "MeaningTypes" ({ cls := "MeaningTypes", name := "isFull", desc := "()Z" } : Jvm.MethodName) ({ cls := "MeaningTypes", name := "isFull", desc := "()Z" } : Jvm.MethodName)) ∈ gx_tG := gx_mems 0 (by decide +kernel) (by decide +kernel)
theorem ws_1 : (Jvm.Cond.selects "MeaningTypes$TypeTable" ({ cls := "MeaningTypes$TypeTable", name := "makesInterface", desc := "(III)Z" } : Jvm.MethodName) ({ cls := "MeaningTypes$TypeTable", name := "makesInterface", desc := "(III)Z" } : Jvm.MethodName)) ∈ gx_tG := gx_mems 1 (by decide +kernel) (by decide +kernel)
theorem ws_2 : (Jvm.Cond.selects "MeaningTypes$TypeTable" ({ cls := "MeaningTypes$TypeTable", name := "followsFromParts", desc := "(II)Z" } : Jvm.MethodName) ({ cls := "MeaningTypes$TypeTable", name := "followsFromParts", desc := "(II)Z" } : Jvm.MethodName)) ∈ gx_tG := gx_mems 2 (by decide +kernel) (by decide +kernel)
theorem ws_3 : (Jvm.Cond.selects "MeaningTypes$Meanings" ({ cls := "MeaningTypes$Meanings", name := "crossStartsWithEnds", desc := "()V" } : Jvm.MethodName) ({ cls := "MeaningTypes$Meanings", name := "crossStartsWithEnds", desc := "()V" } : Jvm.MethodName)) ∈ gx_tG := gx_mems 3 (by decide +kernel) (by decide +kernel)
theorem ws_4 : (Jvm.Cond.selects "MeaningTypes$Meanings" ({ cls := "MeaningTypes$Meanings", name := "addFunctions", desc := "(LMeaningTypes$ProfileSet;LMeaningTypes$ProfileSet;)V" } : Jvm.MethodName) ({ cls := "MeaningTypes$Meanings", name := "addFunctions", desc := "(LMeaningTypes$ProfileSet;LMeaningTypes$ProfileSet;)V" } : Jvm.MethodName)) ∈ gx_tG := gx_mems 4 (by decide +kernel) (by decide +kernel)
theorem ws_5 : (Jvm.Cond.selects "MeaningTypes$Meanings" ({ cls := "MeaningTypes$Meanings", name := "findStepsThatBreak", desc := "(ILMeaningTypes$ProfileSet;)V" } : Jvm.MethodName) ({ cls := "MeaningTypes$Meanings", name := "findStepsThatBreak", desc := "(ILMeaningTypes$ProfileSet;)V" } : Jvm.MethodName)) ∈ gx_tG := gx_mems 5 (by decide +kernel) (by decide +kernel)
theorem ws_6 : (Jvm.Cond.selects "MeaningTypes$Meanings" ({ cls := "MeaningTypes$Meanings", name := "uniteSteps", desc := "()V" } : Jvm.MethodName) ({ cls := "MeaningTypes$Meanings", name := "uniteSteps", desc := "()V" } : Jvm.MethodName)) ∈ gx_tG := gx_mems 6 (by decide +kernel) (by decide +kernel)
theorem ws_7 : (Jvm.Cond.selects "MeaningTypes$Meanings" ({ cls := "MeaningTypes$Meanings", name := "addStep", desc := "(I)V" } : Jvm.MethodName) ({ cls := "MeaningTypes$Meanings", name := "addStep", desc := "(I)V" } : Jvm.MethodName)) ∈ gx_tG := gx_mems 7 (by decide +kernel) (by decide +kernel)
theorem ws_8 : (Jvm.Cond.selects "MeaningTypes" ({ cls := "MeaningTypes", name := "makeFromParts", desc := "(III)I" } : Jvm.MethodName) ({ cls := "MeaningTypes", name := "makeFromParts", desc := "(III)I" } : Jvm.MethodName)) ∈ gx_tG := gx_mems 8 (by decide +kernel) (by decide +kernel)
theorem ws_9 : (Jvm.Cond.selects "MeaningTypes" ({ cls := "MeaningTypes", name := "hasType", desc := "(I)Z" } : Jvm.MethodName) ({ cls := "MeaningTypes", name := "hasType", desc := "(I)Z" } : Jvm.MethodName)) ∈ gx_tG := gx_mems 9 (by decide +kernel) (by decide +kernel)
theorem ws_10 : (Jvm.Cond.selects "MeaningTypes" ({ cls := "MeaningTypes", name := "makeValue", desc := "(IIII)I" } : Jvm.MethodName) ({ cls := "MeaningTypes", name := "makeValue", desc := "(IIII)I" } : Jvm.MethodName)) ∈ gx_tG := gx_mems 10 (by decide +kernel) (by decide +kernel)
theorem ws_11 : (Jvm.Cond.selects "MeaningTypes$ValueTable" ({ cls := "MeaningTypes$ValueTable", name := "fill", desc := "(LMeaningTypes$ProfileSet;ILMeaningTypes$Meanings;I)V" } : Jvm.MethodName) ({ cls := "MeaningTypes$ValueTable", name := "fill", desc := "(LMeaningTypes$ProfileSet;ILMeaningTypes$Meanings;I)V" } : Jvm.MethodName)) ∈ gx_tG := gx_mems 11 (by decide +kernel) (by decide +kernel)
theorem ws_12 : (Jvm.Cond.selects "MeaningTypesModel" ({ cls := "MeaningTypesModel", name := "make", desc := "(IIII)I" } : Jvm.MethodName) ({ cls := "MeaningTypesModel", name := "make", desc := "(IIII)I" } : Jvm.MethodName)) ∈ gx_tG := gx_mems 12 (by decide +kernel) (by decide +kernel)
theorem ws_13 : (Jvm.Cond.selects "MeaningTypesModel" ({ cls := "MeaningTypesModel", name := "combine", desc := "(IIII)I" } : Jvm.MethodName) ({ cls := "MeaningTypesModel", name := "combine", desc := "(IIII)I" } : Jvm.MethodName)) ∈ gx_tG := gx_mems 13 (by decide +kernel) (by decide +kernel)
theorem ws_14 : (Jvm.Cond.selects "MeaningTypesModel" ({ cls := "MeaningTypesModel", name := "isType", desc := "(I)Z" } : Jvm.MethodName) ({ cls := "MeaningTypesModel", name := "isType", desc := "(I)Z" } : Jvm.MethodName)) ∈ gx_tG := gx_mems 14 (by decide +kernel) (by decide +kernel)
theorem ws_15 : (Jvm.Cond.selects "MeaningTypesModel" ({ cls := "MeaningTypesModel", name := "deeper", desc := "(II)I" } : Jvm.MethodName) ({ cls := "MeaningTypesModel", name := "deeper", desc := "(II)I" } : Jvm.MethodName)) ∈ gx_tG := gx_mems 15 (by decide +kernel) (by decide +kernel)
theorem ws_16 : (Jvm.Cond.selects "MeaningTypesModel" ({ cls := "MeaningTypesModel", name := "work", desc := "(I)V" } : Jvm.MethodName) ({ cls := "MeaningTypesModel", name := "work", desc := "(I)V" } : Jvm.MethodName)) ∈ gx_tG := gx_mems 16 (by decide +kernel) (by decide +kernel)
theorem ws_17 : (Jvm.Cond.selects "MeaningTypesModel" ({ cls := "MeaningTypesModel", name := "number", desc := "(I)V" } : Jvm.MethodName) ({ cls := "MeaningTypesModel", name := "number", desc := "(I)V" } : Jvm.MethodName)) ∈ gx_tG := gx_mems 17 (by decide +kernel) (by decide +kernel)
theorem ws_18 : (Jvm.Cond.selects "MeaningTypesModel" ({ cls := "MeaningTypesModel", name := "clear", desc := "(I)V" } : Jvm.MethodName) ({ cls := "MeaningTypesModel", name := "clear", desc := "(I)V" } : Jvm.MethodName)) ∈ gx_tG := gx_mems 18 (by decide +kernel) (by decide +kernel)
theorem ws_19 : (Jvm.Cond.selects "MeaningTypesModel" ({ cls := "MeaningTypesModel", name := "put", desc := "(II)Z" } : Jvm.MethodName) ({ cls := "MeaningTypesModel", name := "put", desc := "(II)Z" } : Jvm.MethodName)) ∈ gx_tG := gx_mems 19 (by decide +kernel) (by decide +kernel)
theorem ws_20 : (Jvm.Cond.selects "MeaningTypesModel" ({ cls := "MeaningTypesModel", name := "has", desc := "(II)Z" } : Jvm.MethodName) ({ cls := "MeaningTypesModel", name := "has", desc := "(II)Z" } : Jvm.MethodName)) ∈ gx_tG := gx_mems 20 (by decide +kernel) (by decide +kernel)
theorem ws_21 : (Jvm.Cond.selects "MeaningTypesModel" ({ cls := "MeaningTypesModel", name := "collect", desc := "(I)V" } : Jvm.MethodName) ({ cls := "MeaningTypesModel", name := "collect", desc := "(I)V" } : Jvm.MethodName)) ∈ gx_tG := gx_mems 21 (by decide +kernel) (by decide +kernel)
theorem ws_22 : (Jvm.Cond.selects "MeaningTypesModel" ({ cls := "MeaningTypesModel", name := "rowOf", desc := "(III)I" } : Jvm.MethodName) ({ cls := "MeaningTypesModel", name := "rowOf", desc := "(III)I" } : Jvm.MethodName)) ∈ gx_tG := gx_mems 22 (by decide +kernel) (by decide +kernel)
theorem ws_23 : (Jvm.Cond.selects "MeaningTypesModel" ({ cls := "MeaningTypesModel", name := "enter", desc := "(II)V" } : Jvm.MethodName) ({ cls := "MeaningTypesModel", name := "enter", desc := "(II)V" } : Jvm.MethodName)) ∈ gx_tG := gx_mems 23 (by decide +kernel) (by decide +kernel)
theorem ws_24 : (Jvm.Cond.selects "MeaningTypesModel" ({ cls := "MeaningTypesModel", name := "parts", desc := "(IIZI)I" } : Jvm.MethodName) ({ cls := "MeaningTypesModel", name := "parts", desc := "(IIZI)I" } : Jvm.MethodName)) ∈ gx_tG := gx_mems 24 (by decide +kernel) (by decide +kernel)
theorem ws_25 : (Jvm.Cond.selects "MeaningTypesModel" ({ cls := "MeaningTypesModel", name := "makePairs", desc := "()Z" } : Jvm.MethodName) ({ cls := "MeaningTypesModel", name := "makePairs", desc := "()Z" } : Jvm.MethodName)) ∈ gx_tG := gx_mems 25 (by decide +kernel) (by decide +kernel)
theorem ws_26 : (Jvm.Cond.selects "MeaningTypesModel" ({ cls := "MeaningTypesModel", name := "makeFunctions", desc := "()Z" } : Jvm.MethodName) ({ cls := "MeaningTypesModel", name := "makeFunctions", desc := "()Z" } : Jvm.MethodName)) ∈ gx_tG := gx_mems 26 (by decide +kernel) (by decide +kernel)
theorem ws_27 : (Jvm.Cond.selects "MeaningTypesModel" ({ cls := "MeaningTypesModel", name := "addStep", desc := "(I)Z" } : Jvm.MethodName) ({ cls := "MeaningTypesModel", name := "addStep", desc := "(I)Z" } : Jvm.MethodName)) ∈ gx_tG := gx_mems 27 (by decide +kernel) (by decide +kernel)
theorem ws_28 : (Jvm.Cond.selects "MeaningTypesModel" ({ cls := "MeaningTypesModel", name := "meets", desc := "(IIZ)Z" } : Jvm.MethodName) ({ cls := "MeaningTypesModel", name := "meets", desc := "(IIZ)Z" } : Jvm.MethodName)) ∈ gx_tG := gx_mems 28 (by decide +kernel) (by decide +kernel)
theorem ws_29 : (Jvm.Cond.selects "MeaningTypesModel" ({ cls := "MeaningTypesModel", name := "lies", desc := "(II)Z" } : Jvm.MethodName) ({ cls := "MeaningTypesModel", name := "lies", desc := "(II)Z" } : Jvm.MethodName)) ∈ gx_tG := gx_mems 29 (by decide +kernel) (by decide +kernel)
theorem ws_30 : (Jvm.Cond.selects "MeaningTypesModel" ({ cls := "MeaningTypesModel", name := "addValue", desc := "(IIII)I" } : Jvm.MethodName) ({ cls := "MeaningTypesModel", name := "addValue", desc := "(IIII)I" } : Jvm.MethodName)) ∈ gx_tG := gx_mems 30 (by decide +kernel) (by decide +kernel)
theorem ws_31 : (Jvm.Cond.selects "MeaningTypesModel" ({ cls := "MeaningTypesModel", name := "isValue", desc := "(I)Z" } : Jvm.MethodName) ({ cls := "MeaningTypesModel", name := "isValue", desc := "(I)Z" } : Jvm.MethodName)) ∈ gx_tG := gx_mems 31 (by decide +kernel) (by decide +kernel)
theorem ws_32 : (Jvm.Cond.selects "MeaningTypesModel" ({ cls := "MeaningTypesModel", name := "prepare", desc := "(I)V" } : Jvm.MethodName) ({ cls := "MeaningTypesModel", name := "prepare", desc := "(I)V" } : Jvm.MethodName)) ∈ gx_tG := gx_mems 32 (by decide +kernel) (by decide +kernel)
theorem ws_33 : (Jvm.Cond.selects "MeaningTypesModel" ({ cls := "MeaningTypesModel", name := "sortRows", desc := "(I)V" } : Jvm.MethodName) ({ cls := "MeaningTypesModel", name := "sortRows", desc := "(I)V" } : Jvm.MethodName)) ∈ gx_tG := gx_mems 33 (by decide +kernel) (by decide +kernel)
theorem ws_34 : (Jvm.Cond.selects "MeaningTypesModel" ({ cls := "MeaningTypesModel", name := "pairRows", desc := "(III)V" } : Jvm.MethodName) ({ cls := "MeaningTypesModel", name := "pairRows", desc := "(III)V" } : Jvm.MethodName)) ∈ gx_tG := gx_mems 34 (by decide +kernel) (by decide +kernel)
theorem ws_35 : (Jvm.Cond.selects "MeaningTypesModel" ({ cls := "MeaningTypesModel", name := "isIn", desc := "(II)Z" } : Jvm.MethodName) ({ cls := "MeaningTypesModel", name := "isIn", desc := "(II)Z" } : Jvm.MethodName)) ∈ gx_tG := gx_mems 35 (by decide +kernel) (by decide +kernel)
theorem in_PS : ∀ w ∈ u_ws R_PS F_PS 3, w ∈ gx_tG := by decide +kernel
theorem in_TT : ∀ w ∈ u_ws R_TT F_TT 6, w ∈ gx_tG := by decide +kernel
theorem in_MG : ∀ w ∈ u_ws R_MG F_MG 6, w ∈ gx_tG := by decide +kernel
theorem in_VT : ∀ w ∈ u_ws R_VT F_VT 8, w ∈ gx_tG := by decide +kernel
theorem in_MT : ∀ w ∈ u_ws R_MT F_MT 2, w ∈ gx_tG := by decide +kernel
theorem in_MM : ∀ w ∈ u_ws R_MM F_MM 16, w ∈ gx_tG := by decide +kernel
def gx_nest : List Cond := [(Jvm.Cond.methodLinkNest "MeaningTypes$Meanings" (11 : Nat) ({ cls := "MeaningTypes$TypeTable", name := "<init>", desc := "()V" } : Jvm.MethodName) "MeaningTypes"), (Jvm.Cond.fieldLinkNest "MeaningTypes$Meanings" (71 : Nat) "MeaningTypes$TypeTable" "first" "[I" "MeaningTypes"), (Jvm.Cond.fieldLinkNest "MeaningTypes$Meanings" (79 : Nat) "MeaningTypes$TypeTable" "second" "[I" "MeaningTypes"), (Jvm.Cond.fieldLinkNest "MeaningTypes" (73 : Nat) "MeaningTypes$TypeTable" "isInterface" "[Z" "MeaningTypes"), (Jvm.Cond.fieldLinkNest "MeaningTypes$Meanings" (49 : Nat) "MeaningTypes$TypeTable" "count" "I" "MeaningTypes"), (Jvm.Cond.fieldLinkNest "MeaningTypes$ValueTable" (54 : Nat) "MeaningTypes$TypeTable" "count" "I" "MeaningTypes"), (Jvm.Cond.fieldLinkNest "MeaningTypes" (38 : Nat) "MeaningTypes$TypeTable" "count" "I" "MeaningTypes"), (Jvm.Cond.fieldLinkNest "MeaningTypes$Meanings" (68 : Nat) "MeaningTypes$ProfileSet" "end" "I" "MeaningTypes"), (Jvm.Cond.fieldLinkNest "MeaningTypes$ValueTable" (61 : Nat) "MeaningTypes$ProfileSet" "end" "I" "MeaningTypes"), (Jvm.Cond.fieldLinkNest "MeaningTypes$ValueTable" (48 : Nat) "MeaningTypes$Meanings" "table" "LMeaningTypes$TypeTable;" "MeaningTypes"), (Jvm.Cond.fieldLinkNest "MeaningTypes" (34 : Nat) "MeaningTypes$Meanings" "table" "LMeaningTypes$TypeTable;" "MeaningTypes"), (Jvm.Cond.fieldLinkNest "MeaningTypes" (69 : Nat) "MeaningTypes$ValueTable" "leaves" "[I" "MeaningTypes"), (Jvm.Cond.fieldLinkNest "MeaningTypes" (90 : Nat) "MeaningTypes$ValueTable" "count" "I" "MeaningTypes"), (Jvm.Cond.methodLinkNest "MeaningTypes$TypeTable" (49 : Nat) ({ cls := "MeaningTypes", name := "holds", desc := "(II)Z" } : Jvm.MethodName) "MeaningTypes"), (Jvm.Cond.methodLinkNest "MeaningTypes$Meanings" (105 : Nat) ({ cls := "MeaningTypes", name := "holds", desc := "(II)Z" } : Jvm.MethodName) "MeaningTypes")]
theorem nw_0 : (Jvm.Cond.methodLinkNest "MeaningTypes$Meanings" (11 : Nat) ({ cls := "MeaningTypes$TypeTable", name := "<init>", desc := "()V" } : Jvm.MethodName) "MeaningTypes") ∈ gx_nest := List.mem_of_getElem? (i := 0) rfl
theorem nw_1 : (Jvm.Cond.fieldLinkNest "MeaningTypes$Meanings" (71 : Nat) "MeaningTypes$TypeTable" "first" "[I" "MeaningTypes") ∈ gx_nest := List.mem_of_getElem? (i := 1) rfl
theorem nw_2 : (Jvm.Cond.fieldLinkNest "MeaningTypes$Meanings" (79 : Nat) "MeaningTypes$TypeTable" "second" "[I" "MeaningTypes") ∈ gx_nest := List.mem_of_getElem? (i := 2) rfl
theorem nw_3 : (Jvm.Cond.fieldLinkNest "MeaningTypes" (73 : Nat) "MeaningTypes$TypeTable" "isInterface" "[Z" "MeaningTypes") ∈ gx_nest := List.mem_of_getElem? (i := 3) rfl
theorem nw_4 : (Jvm.Cond.fieldLinkNest "MeaningTypes$Meanings" (49 : Nat) "MeaningTypes$TypeTable" "count" "I" "MeaningTypes") ∈ gx_nest := List.mem_of_getElem? (i := 4) rfl
theorem nw_5 : (Jvm.Cond.fieldLinkNest "MeaningTypes$ValueTable" (54 : Nat) "MeaningTypes$TypeTable" "count" "I" "MeaningTypes") ∈ gx_nest := List.mem_of_getElem? (i := 5) rfl
theorem nw_6 : (Jvm.Cond.fieldLinkNest "MeaningTypes" (38 : Nat) "MeaningTypes$TypeTable" "count" "I" "MeaningTypes") ∈ gx_nest := List.mem_of_getElem? (i := 6) rfl
theorem nw_7 : (Jvm.Cond.fieldLinkNest "MeaningTypes$Meanings" (68 : Nat) "MeaningTypes$ProfileSet" "end" "I" "MeaningTypes") ∈ gx_nest := List.mem_of_getElem? (i := 7) rfl
theorem nw_8 : (Jvm.Cond.fieldLinkNest "MeaningTypes$ValueTable" (61 : Nat) "MeaningTypes$ProfileSet" "end" "I" "MeaningTypes") ∈ gx_nest := List.mem_of_getElem? (i := 8) rfl
theorem nw_9 : (Jvm.Cond.fieldLinkNest "MeaningTypes$ValueTable" (48 : Nat) "MeaningTypes$Meanings" "table" "LMeaningTypes$TypeTable;" "MeaningTypes") ∈ gx_nest := List.mem_of_getElem? (i := 9) rfl
theorem nw_10 : (Jvm.Cond.fieldLinkNest "MeaningTypes" (34 : Nat) "MeaningTypes$Meanings" "table" "LMeaningTypes$TypeTable;" "MeaningTypes") ∈ gx_nest := List.mem_of_getElem? (i := 10) rfl
theorem nw_11 : (Jvm.Cond.fieldLinkNest "MeaningTypes" (69 : Nat) "MeaningTypes$ValueTable" "leaves" "[I" "MeaningTypes") ∈ gx_nest := List.mem_of_getElem? (i := 11) rfl
theorem nw_12 : (Jvm.Cond.fieldLinkNest "MeaningTypes" (90 : Nat) "MeaningTypes$ValueTable" "count" "I" "MeaningTypes") ∈ gx_nest := List.mem_of_getElem? (i := 12) rfl
theorem nw_13 : (Jvm.Cond.methodLinkNest "MeaningTypes$TypeTable" (49 : Nat) ({ cls := "MeaningTypes", name := "holds", desc := "(II)Z" } : Jvm.MethodName) "MeaningTypes") ∈ gx_nest := List.mem_of_getElem? (i := 13) rfl
theorem nw_14 : (Jvm.Cond.methodLinkNest "MeaningTypes$Meanings" (105 : Nat) ({ cls := "MeaningTypes", name := "holds", desc := "(II)Z" } : Jvm.MethodName) "MeaningTypes") ∈ gx_nest := List.mem_of_getElem? (i := 14) rfl
theorem gx_nest_tab : ∀ w ∈ gx_nest, w.onTables = true := by decide +kernel
theorem gx_nest_in : ∀ w ∈ gx_nest, w ∈ lw_tbl := by decide +kernel
theorem gx_nest_warm {s U : State} (hW : s.WarmedH U.vm) : ∀ w ∈ gx_nest, va_Nw w s → va_Nw w U := List.forall_mem_cons.mpr ⟨fun h => va_Nw.warmM hW h, List.forall_mem_cons.mpr ⟨fun h => va_Nw.warmF hW h, List.forall_mem_cons.mpr ⟨fun h => va_Nw.warmF hW h, List.forall_mem_cons.mpr ⟨fun h => va_Nw.warmF hW h, List.forall_mem_cons.mpr ⟨fun h => va_Nw.warmF hW h, List.forall_mem_cons.mpr ⟨fun h => va_Nw.warmF hW h, List.forall_mem_cons.mpr ⟨fun h => va_Nw.warmF hW h, List.forall_mem_cons.mpr ⟨fun h => va_Nw.warmF hW h, List.forall_mem_cons.mpr ⟨fun h => va_Nw.warmF hW h, List.forall_mem_cons.mpr ⟨fun h => va_Nw.warmF hW h, List.forall_mem_cons.mpr ⟨fun h => va_Nw.warmF hW h, List.forall_mem_cons.mpr ⟨fun h => va_Nw.warmF hW h, List.forall_mem_cons.mpr ⟨fun h => va_Nw.warmF hW h, List.forall_mem_cons.mpr ⟨fun h => va_Nw.warmM hW h, List.forall_mem_cons.mpr ⟨fun h => va_Nw.warmM hW h, fun _ h => absurd h List.not_mem_nil⟩⟩⟩⟩⟩⟩⟩⟩⟩⟩⟩⟩⟩⟩⟩
