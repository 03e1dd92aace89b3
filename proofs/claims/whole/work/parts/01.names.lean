-- ===== PART A: goes FIRST, ahead of the names: the tables' words, and 'selects' of the private methods out of them =====
/-- a private method of a class that the tables say can be made, by its rows of tables_1 -/
def lw_okq (q : MethodName × Nat) : Prop := (q.1.cls ≠ "java/lang/invoke/MethodHandle" ∧ q.1.cls ≠ "java/lang/invoke/VarHandle") ∧ Cond.instantiable q.1.cls q.2 ∈ tables_1 ∧ Cond.privateMethod q.1 ∈ tables_1 ∧ Cond.instanceMethod q.1 ∈ tables_1
theorem lw_p0 : lw_okq (⟨"RowModels$Sets", "hasSet", "(I)Z"⟩, 1) := ⟨⟨by decide +kernel, by decide +kernel⟩, List.mem_of_getElem? (i := 23) (by decide +kernel), List.mem_of_getElem? (i := 117) (by decide +kernel), List.mem_of_getElem? (i := 118) (by decide +kernel)⟩
theorem lw_p1 : lw_okq (⟨"RowModels$Sets", "hasPlace", "(II)Z"⟩, 1) := ⟨⟨by decide +kernel, by decide +kernel⟩, List.mem_of_getElem? (i := 23) (by decide +kernel), List.mem_of_getElem? (i := 125) (by decide +kernel), List.mem_of_getElem? (i := 126) (by decide +kernel)⟩
theorem lw_p2 : lw_okq (⟨"RowModels$Draft", "hasPart", "(I)Z"⟩, 7) := ⟨⟨by decide +kernel, by decide +kernel⟩, List.mem_of_getElem? (i := 17) (by decide +kernel), List.mem_of_getElem? (i := 137) (by decide +kernel), List.mem_of_getElem? (i := 138) (by decide +kernel)⟩
theorem lw_p3 : lw_okq (⟨"RowModels$Draft", "letFollow", "(II)V"⟩, 7) := ⟨⟨by decide +kernel, by decide +kernel⟩, List.mem_of_getElem? (i := 17) (by decide +kernel), List.mem_of_getElem? (i := 141) (by decide +kernel), List.mem_of_getElem? (i := 142) (by decide +kernel)⟩
theorem lw_p4 : lw_okq (⟨"RowModels", "modelAt", "(I)LRowModels$Model;"⟩, 4) := ⟨⟨by decide +kernel, by decide +kernel⟩, List.mem_of_getElem? (i := 9) (by decide +kernel), List.mem_of_getElem? (i := 227) (by decide +kernel), List.mem_of_getElem? (i := 228) (by decide +kernel)⟩
theorem lw_p5 : lw_okq (⟨"RowModelsModel", "node", "(IIII)I"⟩, 23) := ⟨⟨by decide +kernel, by decide +kernel⟩, List.mem_of_getElem? (i := 302) (by decide +kernel), List.mem_of_getElem? (i := 385) (by decide +kernel), List.mem_of_getElem? (i := 386) (by decide +kernel)⟩
theorem lw_p6 : lw_okq (⟨"RowModelsModel", "join", "(I)I"⟩, 23) := ⟨⟨by decide +kernel, by decide +kernel⟩, List.mem_of_getElem? (i := 302) (by decide +kernel), List.mem_of_getElem? (i := 393) (by decide +kernel), List.mem_of_getElem? (i := 394) (by decide +kernel)⟩
theorem lw_p7 : lw_okq (⟨"RowModelsModel", "forget", "()V"⟩, 23) := ⟨⟨by decide +kernel, by decide +kernel⟩, List.mem_of_getElem? (i := 302) (by decide +kernel), List.mem_of_getElem? (i := 409) (by decide +kernel), List.mem_of_getElem? (i := 410) (by decide +kernel)⟩
theorem lw_p8 : lw_okq (⟨"RowModelsModel", "isModel", "(I)Z"⟩, 23) := ⟨⟨by decide +kernel, by decide +kernel⟩, List.mem_of_getElem? (i := 302) (by decide +kernel), List.mem_of_getElem? (i := 421) (by decide +kernel), List.mem_of_getElem? (i := 422) (by decide +kernel)⟩
theorem lw_p9 : lw_okq (⟨"RowModelsModel", "clearLater", "(I)V"⟩, 23) := ⟨⟨by decide +kernel, by decide +kernel⟩, List.mem_of_getElem? (i := 302) (by decide +kernel), List.mem_of_getElem? (i := 429) (by decide +kernel), List.mem_of_getElem? (i := 430) (by decide +kernel)⟩
theorem lw_p10 : lw_okq (⟨"RowModelsModel", "enter", "(I)V"⟩, 23) := ⟨⟨by decide +kernel, by decide +kernel⟩, List.mem_of_getElem? (i := 302) (by decide +kernel), List.mem_of_getElem? (i := 433) (by decide +kernel), List.mem_of_getElem? (i := 434) (by decide +kernel)⟩
theorem lw_p11 : lw_okq (⟨"RowModelsModel", "hasTwins", "(I)Z"⟩, 23) := ⟨⟨by decide +kernel, by decide +kernel⟩, List.mem_of_getElem? (i := 302) (by decide +kernel), List.mem_of_getElem? (i := 437) (by decide +kernel), List.mem_of_getElem? (i := 438) (by decide +kernel)⟩
theorem lw_p12 : lw_okq (⟨"RowModelsModel", "leave", "(I)V"⟩, 23) := ⟨⟨by decide +kernel, by decide +kernel⟩, List.mem_of_getElem? (i := 302) (by decide +kernel), List.mem_of_getElem? (i := 441) (by decide +kernel), List.mem_of_getElem? (i := 442) (by decide +kernel)⟩
theorem lw_p13 : lw_okq (⟨"RowModelsModel", "first", "()V"⟩, 23) := ⟨⟨by decide +kernel, by decide +kernel⟩, List.mem_of_getElem? (i := 302) (by decide +kernel), List.mem_of_getElem? (i := 449) (by decide +kernel), List.mem_of_getElem? (i := 450) (by decide +kernel)⟩
theorem lw_p14 : lw_okq (⟨"RowModelsModel", "go", "(I)V"⟩, 23) := ⟨⟨by decide +kernel, by decide +kernel⟩, List.mem_of_getElem? (i := 302) (by decide +kernel), List.mem_of_getElem? (i := 457) (by decide +kernel), List.mem_of_getElem? (i := 458) (by decide +kernel)⟩
def lw_privs_1 : List (MethodName × Nat) := [(⟨"RowModels$Sets", "hasSet", "(I)Z"⟩, 1), (⟨"RowModels$Sets", "hasPlace", "(II)Z"⟩, 1), (⟨"RowModels$Draft", "hasPart", "(I)Z"⟩, 7), (⟨"RowModels$Draft", "letFollow", "(II)V"⟩, 7), (⟨"RowModels", "modelAt", "(I)LRowModels$Model;"⟩, 4), (⟨"RowModelsModel", "node", "(IIII)I"⟩, 23), (⟨"RowModelsModel", "join", "(I)I"⟩, 23), (⟨"RowModelsModel", "forget", "()V"⟩, 23), (⟨"RowModelsModel", "isModel", "(I)Z"⟩, 23), (⟨"RowModelsModel", "clearLater", "(I)V"⟩, 23), (⟨"RowModelsModel", "enter", "(I)V"⟩, 23), (⟨"RowModelsModel", "hasTwins", "(I)Z"⟩, 23), (⟨"RowModelsModel", "leave", "(I)V"⟩, 23), (⟨"RowModelsModel", "first", "()V"⟩, 23), (⟨"RowModelsModel", "go", "(I)V"⟩, 23)]
theorem lw_r1 : ∀ q ∈ lw_privs_1, lw_okq q := List.forall_mem_cons.mpr ⟨lw_p0, List.forall_mem_cons.mpr ⟨lw_p1, List.forall_mem_cons.mpr ⟨lw_p2, List.forall_mem_cons.mpr ⟨lw_p3, List.forall_mem_cons.mpr ⟨lw_p4, List.forall_mem_cons.mpr ⟨lw_p5, List.forall_mem_cons.mpr ⟨lw_p6, List.forall_mem_cons.mpr ⟨lw_p7, List.forall_mem_cons.mpr ⟨lw_p8, List.forall_mem_cons.mpr ⟨lw_p9, List.forall_mem_cons.mpr ⟨lw_p10, List.forall_mem_cons.mpr ⟨lw_p11, List.forall_mem_cons.mpr ⟨lw_p12, List.forall_mem_cons.mpr ⟨lw_p13, List.forall_mem_cons.mpr ⟨lw_p14, fun _ h => absurd h List.not_mem_nil⟩⟩⟩⟩⟩⟩⟩⟩⟩⟩⟩⟩⟩⟩⟩
def lw_privs : List (MethodName × Nat) := lw_privs_1
def lw_tbl : List Cond := k2_sels lw_privs ++ tables_1
theorem lw_privs_ok : ∀ q ∈ lw_privs, lw_okq q := lw_r1

def R_law : String := "RowModelsLaw"
def R_Dr : String := "RowModels$Draft"
def T_Dr : u_T := fun k => match k with
  | 0 => ("RowModels$Draft", "names", "[I", true)
  | 1 => ("RowModels$Draft", "followers", "LRowModels$Sets;", true)
  | 2 => ("RowModels$Draft", "firsts", "LRowModels$Sets;", true)
  | 3 => ("RowModels$Draft", "lasts", "LRowModels$Sets;", true)
  | 4 => ("RowModels$Draft", "mayBeNone", "[Z", true)
  | 5 => ("RowModels$Draft", "nameCount", "I", false)
  | _ => ("RowModels$Draft", "partCount", "I", false)
def ty_Dr : Nat → FieldType := fun k => match k with
  | 0 => .array .int
  | 1 => .object "RowModels$Sets"
  | 2 => .object "RowModels$Sets"
  | 3 => .object "RowModels$Sets"
  | 4 => .array .boolean
  | 5 => .int
  | _ => .int
abbrev ws_Dr : List Cond := u_ws R_Dr T_Dr 7
theorem nm_Dr : ∀ a, a < 7 → ∀ b, b < 7 → a ≠ b → (T_Dr a).2.1 ≠ (T_Dr b).2.1 := by decide +kernel
theorem tyok_Dr : ∀ k, k < 7 → parseFieldDescriptor (T_Dr k).2.2.1 = some (ty_Dr k) := by decide +kernel
def R_Mo : String := "RowModels$Model"
def T_Mo : u_T := fun k => match k with
  | 0 => ("RowModels$Model", "entries", "[I", true)
  | 1 => ("RowModels$Model", "followers", "LRowModels$Sets;", true)
  | _ => ("RowModels$Model", "deterministic", "Z", true)
def ty_Mo : Nat → FieldType := fun k => match k with
  | 0 => .array .int
  | 1 => .object "RowModels$Sets"
  | _ => .boolean
abbrev ws_Mo : List Cond := u_ws R_Mo T_Mo 3
theorem nm_Mo : ∀ a, a < 3 → ∀ b, b < 3 → a ≠ b → (T_Mo a).2.1 ≠ (T_Mo b).2.1 := by decide +kernel
theorem tyok_Mo : ∀ k, k < 3 → parseFieldDescriptor (T_Mo k).2.2.1 = some (ty_Mo k) := by decide +kernel
def R_Re : String := "RowModels$Reading"
def T_Re : u_T := fun k => match k with
  | 0 => ("RowModels$Reading", "names", "[I", true)
  | 1 => ("RowModels$Reading", "comes", "LRowModels$Sets;", true)
  | 2 => ("RowModels$Reading", "model", "LRowModels$Model;", false)
  | _ => ("RowModels$Reading", "count", "I", false)
def ty_Re : Nat → FieldType := fun k => match k with
  | 0 => .array .int
  | 1 => .object "RowModels$Sets"
  | 2 => .object "RowModels$Model"
  | _ => .int
abbrev ws_Re : List Cond := u_ws R_Re T_Re 4
theorem nm_Re : ∀ a, a < 4 → ∀ b, b < 4 → a ≠ b → (T_Re a).2.1 ≠ (T_Re b).2.1 := by decide +kernel
theorem tyok_Re : ∀ k, k < 4 → parseFieldDescriptor (T_Re k).2.2.1 = some (ty_Re k) := by decide +kernel
def R_Se : String := "RowModels$Sets"
def T_Se : u_T := fun k => match k with
  | _ => ("RowModels$Sets", "words", "[J", true)
def ty_Se : Nat → FieldType := fun k => match k with
  | _ => .array .long
abbrev ws_Se : List Cond := u_ws R_Se T_Se 1
theorem nm_Se : ∀ a, a < 1 → ∀ b, b < 1 → a ≠ b → (T_Se a).2.1 ≠ (T_Se b).2.1 := by decide +kernel
theorem tyok_Se : ∀ k, k < 1 → parseFieldDescriptor (T_Se k).2.2.1 = some (ty_Se k) := by decide +kernel
def R_To : String := "RowModels"
def T_To : u_T := fun k => match k with
  | 0 => ("RowModels", "draft", "LRowModels$Draft;", true)
  | 1 => ("RowModels", "models", "[LRowModels$Model;", true)
  | 2 => ("RowModels", "reading", "LRowModels$Reading;", true)
  | _ => ("RowModels", "modelCount", "I", false)
def ty_To : Nat → FieldType := fun k => match k with
  | 0 => .object "RowModels$Draft"
  | 1 => .array (.object "RowModels$Model")
  | 2 => .object "RowModels$Reading"
  | _ => .int
abbrev ws_To : List Cond := u_ws R_To T_To 4
theorem nm_To : ∀ a, a < 4 → ∀ b, b < 4 → a ≠ b → (T_To a).2.1 ≠ (T_To b).2.1 := by decide +kernel
theorem tyok_To : ∀ k, k < 4 → parseFieldDescriptor (T_To k).2.2.1 = some (ty_To k) := by decide +kernel
def R_Rf : String := "RowModelsModel"
def T_Rf : u_T := fun k => match k with
  | 0 => ("RowModelsModel", "kinds", "[I", true)
  | 1 => ("RowModelsModel", "names", "[I", true)
  | 2 => ("RowModelsModel", "lefts", "[I", true)
  | 3 => ("RowModelsModel", "rights", "[I", true)
  | 4 => ("RowModelsModel", "aboves", "[I", true)
  | 5 => ("RowModelsModel", "empty", "[Z", true)
  | 6 => ("RowModelsModel", "nodes", "I", false)
  | 7 => ("RowModelsModel", "parts", "[I", true)
  | 8 => ("RowModelsModel", "count", "I", false)
  | 9 => ("RowModelsModel", "draftNames", "I", false)
  | 10 => ("RowModelsModel", "draftBegin", "I", false)
  | 11 => ("RowModelsModel", "begins", "[I", true)
  | 12 => ("RowModelsModel", "roots", "[I", true)
  | 13 => ("RowModelsModel", "sizes", "[I", true)
  | 14 => ("RowModelsModel", "models", "I", false)
  | 15 => ("RowModelsModel", "model", "I", false)
  | 16 => ("RowModelsModel", "read", "[I", true)
  | 17 => ("RowModelsModel", "reads", "I", false)
  | 18 => ("RowModelsModel", "can", "[Z", true)
  | 19 => ("RowModelsModel", "later", "[Z", true)
  | 20 => ("RowModelsModel", "whole", "Z", false)
  | 21 => ("RowModelsModel", "laterWhole", "Z", false)
  | _ => ("RowModelsModel", "todo", "[I", true)
def ty_Rf : Nat → FieldType := fun k => match k with
  | 0 => .array .int
  | 1 => .array .int
  | 2 => .array .int
  | 3 => .array .int
  | 4 => .array .int
  | 5 => .array .boolean
  | 6 => .int
  | 7 => .array .int
  | 8 => .int
  | 9 => .int
  | 10 => .int
  | 11 => .array .int
  | 12 => .array .int
  | 13 => .array .int
  | 14 => .int
  | 15 => .int
  | 16 => .array .int
  | 17 => .int
  | 18 => .array .boolean
  | 19 => .array .boolean
  | 20 => .boolean
  | 21 => .boolean
  | _ => .array .int
abbrev ws_Rf : List Cond := u_ws R_Rf T_Rf 23
theorem nm_Rf : ∀ a, a < 23 → ∀ b, b < 23 → a ≠ b → (T_Rf a).2.1 ≠ (T_Rf b).2.1 := by decide +kernel
theorem tyok_Rf : ∀ k, k < 23 → parseFieldDescriptor (T_Rf k).2.2.1 = some (ty_Rf k) := by decide +kernel
abbrev vwCl : List vw_C := [(R_Dr, T_Dr, 7), (R_Mo, T_Mo, 3), (R_Re, T_Re, 4), (R_Se, T_Se, 1), (R_To, T_To, 4), (R_Rf, T_Rf, 23)]
abbrev TY (c : Nat → ClassId) : List (ClassId × FieldType) := [(c 0, .int), (c 1, .boolean), (c 2, .long), (c 3, .object R_Mo)]
abbrev b_To_init : ByteArray := prog_1_method_1_code
def y_To_init : MethodName := ⟨R_To, "<init>", "()V"⟩
abbrev b_To_name : ByteArray := prog_1_method_2_code
def y_To_name : MethodName := ⟨R_To, "name", "(I)I"⟩
abbrev b_To_row : ByteArray := prog_1_method_3_code
def y_To_row : MethodName := ⟨R_To, "row", "()I"⟩
abbrev b_To_choice : ByteArray := prog_1_method_4_code
def y_To_choice : MethodName := ⟨R_To, "choice", "()I"⟩
abbrev b_To_often : ByteArray := prog_1_method_5_code
def y_To_often : MethodName := ⟨R_To, "often", "(I)Z"⟩
abbrev b_To_clear : ByteArray := prog_1_method_6_code
def y_To_clear : MethodName := ⟨R_To, "clear", "()I"⟩
abbrev b_To_make : ByteArray := prog_1_method_7_code
def y_To_make : MethodName := ⟨R_To, "make", "()I"⟩
abbrev b_To_size : ByteArray := prog_1_method_8_code
def y_To_size : MethodName := ⟨R_To, "size", "(I)I"⟩
abbrev b_To_isDeterministic : ByteArray := prog_1_method_9_code
def y_To_isDeterministic : MethodName := ⟨R_To, "isDeterministic", "(I)Z"⟩
abbrev b_To_begin : ByteArray := prog_1_method_10_code
def y_To_begin : MethodName := ⟨R_To, "begin", "(I)Z"⟩
abbrev b_To_read : ByteArray := prog_1_method_11_code
def y_To_read : MethodName := ⟨R_To, "read", "(I)I"⟩
abbrev b_To_isWhole : ByteArray := prog_1_method_12_code
def y_To_isWhole : MethodName := ⟨R_To, "isWhole", "()Z"⟩
abbrev b_To_can : ByteArray := prog_1_method_13_code
def y_To_can : MethodName := ⟨R_To, "can", "(I)Z"⟩
abbrev b_To_next : ByteArray := prog_1_method_14_code
def y_To_next : MethodName := ⟨R_To, "next", "(I)I"⟩
abbrev b_To_back : ByteArray := prog_1_method_15_code
def y_To_back : MethodName := ⟨R_To, "back", "()I"⟩
abbrev b_To_isName : ByteArray := prog_1_method_16_code
def y_To_isName : MethodName := ⟨R_To, "isName", "(I)Z"⟩
abbrev b_To_modelAt : ByteArray := prog_1_method_17_code
def y_To_modelAt : MethodName := ⟨R_To, "modelAt", "(I)LRowModels$Model;"⟩
abbrev b_Rf_init : ByteArray := prog_7_method_1_code
def y_Rf_init : MethodName := ⟨R_Rf, "<init>", "()V"⟩
abbrev b_Rf_node : ByteArray := prog_7_method_2_code
def y_Rf_node : MethodName := ⟨R_Rf, "node", "(IIII)I"⟩
abbrev b_Rf_isName : ByteArray := prog_7_method_3_code
def y_Rf_isName : MethodName := ⟨R_Rf, "isName", "(I)Z"⟩
abbrev b_Rf_name : ByteArray := prog_7_method_4_code
def y_Rf_name : MethodName := ⟨R_Rf, "name", "(I)I"⟩
abbrev b_Rf_join : ByteArray := prog_7_method_5_code
def y_Rf_join : MethodName := ⟨R_Rf, "join", "(I)I"⟩
abbrev b_Rf_row : ByteArray := prog_7_method_6_code
def y_Rf_row : MethodName := ⟨R_Rf, "row", "()I"⟩
abbrev b_Rf_choice : ByteArray := prog_7_method_7_code
def y_Rf_choice : MethodName := ⟨R_Rf, "choice", "()I"⟩
abbrev b_Rf_often : ByteArray := prog_7_method_8_code
def y_Rf_often : MethodName := ⟨R_Rf, "often", "(I)Z"⟩
abbrev b_Rf_forget : ByteArray := prog_7_method_9_code
def y_Rf_forget : MethodName := ⟨R_Rf, "forget", "()V"⟩
abbrev b_Rf_clear : ByteArray := prog_7_method_10_code
def y_Rf_clear : MethodName := ⟨R_Rf, "clear", "()I"⟩
abbrev b_Rf_make : ByteArray := prog_7_method_11_code
def y_Rf_make : MethodName := ⟨R_Rf, "make", "()I"⟩
abbrev b_Rf_isModel : ByteArray := prog_7_method_12_code
def y_Rf_isModel : MethodName := ⟨R_Rf, "isModel", "(I)Z"⟩
abbrev b_Rf_size : ByteArray := prog_7_method_13_code
def y_Rf_size : MethodName := ⟨R_Rf, "size", "(I)I"⟩
abbrev b_Rf_enter : ByteArray := prog_7_method_14_code
def y_Rf_enter : MethodName := ⟨R_Rf, "enter", "(I)V"⟩
abbrev b_Rf_leave : ByteArray := prog_7_method_15_code
def y_Rf_leave : MethodName := ⟨R_Rf, "leave", "(I)V"⟩
abbrev b_Rf_clearLater : ByteArray := prog_7_method_16_code
def y_Rf_clearLater : MethodName := ⟨R_Rf, "clearLater", "(I)V"⟩
abbrev b_Rf_hasTwins : ByteArray := prog_7_method_17_code
def y_Rf_hasTwins : MethodName := ⟨R_Rf, "hasTwins", "(I)Z"⟩
abbrev b_Rf_isDeterministic : ByteArray := prog_7_method_18_code
def y_Rf_isDeterministic : MethodName := ⟨R_Rf, "isDeterministic", "(I)Z"⟩
abbrev b_Rf_first : ByteArray := prog_7_method_19_code
def y_Rf_first : MethodName := ⟨R_Rf, "first", "()V"⟩
abbrev b_Rf_go : ByteArray := prog_7_method_20_code
def y_Rf_go : MethodName := ⟨R_Rf, "go", "(I)V"⟩
abbrev b_Rf_begin : ByteArray := prog_7_method_21_code
def y_Rf_begin : MethodName := ⟨R_Rf, "begin", "(I)Z"⟩
abbrev b_Rf_read : ByteArray := prog_7_method_22_code
def y_Rf_read : MethodName := ⟨R_Rf, "read", "(I)I"⟩
abbrev b_Rf_isWhole : ByteArray := prog_7_method_23_code
def y_Rf_isWhole : MethodName := ⟨R_Rf, "isWhole", "()Z"⟩
abbrev b_Rf_can : ByteArray := prog_7_method_24_code
def y_Rf_can : MethodName := ⟨R_Rf, "can", "(I)Z"⟩
abbrev b_Rf_next : ByteArray := prog_7_method_25_code
def y_Rf_next : MethodName := ⟨R_Rf, "next", "(I)I"⟩
abbrev b_Rf_back : ByteArray := prog_7_method_26_code
def y_Rf_back : MethodName := ⟨R_Rf, "back", "()I"⟩
abbrev b_Dr_init : ByteArray := prog_2_method_1_code
def y_Dr_init : MethodName := ⟨R_Dr, "<init>", "()V"⟩
abbrev b_Dr_hasPart : ByteArray := prog_2_method_2_code
def y_Dr_hasPart : MethodName := ⟨R_Dr, "hasPart", "(I)Z"⟩
abbrev b_Dr_addName : ByteArray := prog_2_method_3_code
def y_Dr_addName : MethodName := ⟨R_Dr, "addName", "(I)Z"⟩
abbrev b_Dr_joinToRow : ByteArray := prog_2_method_4_code
def y_Dr_joinToRow : MethodName := ⟨R_Dr, "joinToRow", "()Z"⟩
abbrev b_Dr_joinToChoice : ByteArray := prog_2_method_5_code
def y_Dr_joinToChoice : MethodName := ⟨R_Dr, "joinToChoice", "()Z"⟩
abbrev b_Dr_repeatLast : ByteArray := prog_2_method_6_code
def y_Dr_repeatLast : MethodName := ⟨R_Dr, "repeatLast", "(I)Z"⟩
abbrev b_Dr_letFollow : ByteArray := prog_2_method_7_code
def y_Dr_letFollow : MethodName := ⟨R_Dr, "letFollow", "(II)V"⟩
abbrev b_Dr_dropAll : ByteArray := prog_2_method_8_code
def y_Dr_dropAll : MethodName := ⟨R_Dr, "dropAll", "()V"⟩
abbrev b_Dr_toModel : ByteArray := prog_2_method_9_code
def y_Dr_toModel : MethodName := ⟨R_Dr, "toModel", "()LRowModels$Model;"⟩
abbrev b_Mo_init : ByteArray := prog_3_method_1_code
def y_Mo_init : MethodName := ⟨R_Mo, "<init>", "([ILRowModels$Sets;)V"⟩
abbrev b_Mo_entry : ByteArray := prog_3_method_2_code
def y_Mo_entry : MethodName := ⟨R_Mo, "entry", "(II)I"⟩
abbrev b_Mo_nameOf : ByteArray := prog_3_method_3_code
def y_Mo_nameOf : MethodName := ⟨R_Mo, "nameOf", "(I)I"⟩
abbrev b_Mo_occurrenceOf : ByteArray := prog_3_method_4_code
def y_Mo_occurrenceOf : MethodName := ⟨R_Mo, "occurrenceOf", "(I)I"⟩
abbrev b_Mo_sort : ByteArray := prog_3_method_5_code
def y_Mo_sort : MethodName := ⟨R_Mo, "sort", "([I)V"⟩
abbrev b_Mo_hasTwinsAnywhere : ByteArray := prog_3_method_6_code
def y_Mo_hasTwinsAnywhere : MethodName := ⟨R_Mo, "hasTwinsAnywhere", "([ILRowModels$Sets;)Z"⟩
abbrev b_Mo_hasTwins : ByteArray := prog_3_method_7_code
def y_Mo_hasTwins : MethodName := ⟨R_Mo, "hasTwins", "([ILRowModels$Sets;I)Z"⟩
abbrev b_Mo_putFirst : ByteArray := prog_3_method_8_code
def y_Mo_putFirst : MethodName := ⟨R_Mo, "putFirst", "(LRowModels$Sets;I)V"⟩
abbrev b_Mo_putBehind : ByteArray := prog_3_method_9_code
def y_Mo_putBehind : MethodName := ⟨R_Mo, "putBehind", "(LRowModels$Sets;II)V"⟩
abbrev b_Mo_hasName : ByteArray := prog_3_method_10_code
def y_Mo_hasName : MethodName := ⟨R_Mo, "hasName", "(LRowModels$Sets;II)Z"⟩
abbrev b_Mo_nameAt : ByteArray := prog_3_method_11_code
def y_Mo_nameAt : MethodName := ⟨R_Mo, "nameAt", "(LRowModels$Sets;II)I"⟩
abbrev b_Re_init : ByteArray := prog_4_method_1_code
def y_Re_init : MethodName := ⟨R_Re, "<init>", "()V"⟩
abbrev b_Re_startWith : ByteArray := prog_4_method_2_code
def y_Re_startWith : MethodName := ⟨R_Re, "startWith", "(LRowModels$Model;)V"⟩
abbrev b_Re_take : ByteArray := prog_4_method_3_code
def y_Re_take : MethodName := ⟨R_Re, "take", "(I)Z"⟩
abbrev b_Re_mayEnd : ByteArray := prog_4_method_4_code
def y_Re_mayEnd : MethodName := ⟨R_Re, "mayEnd", "()Z"⟩
abbrev b_Re_mayTake : ByteArray := prog_4_method_5_code
def y_Re_mayTake : MethodName := ⟨R_Re, "mayTake", "(I)Z"⟩
abbrev b_Re_offer : ByteArray := prog_4_method_6_code
def y_Re_offer : MethodName := ⟨R_Re, "offer", "(I)I"⟩
abbrev b_Re_takeBack : ByteArray := prog_4_method_7_code
def y_Re_takeBack : MethodName := ⟨R_Re, "takeBack", "()I"⟩
abbrev b_Se_init : ByteArray := prog_5_method_1_code
def y_Se_init : MethodName := ⟨R_Se, "<init>", "(I)V"⟩
abbrev b_Se_hasSet : ByteArray := prog_5_method_2_code
def y_Se_hasSet : MethodName := ⟨R_Se, "hasSet", "(I)Z"⟩
abbrev b_Se_hasPlace : ByteArray := prog_5_method_3_code
def y_Se_hasPlace : MethodName := ⟨R_Se, "hasPlace", "(II)Z"⟩
abbrev b_Se_holds : ByteArray := prog_5_method_4_code
def y_Se_holds : MethodName := ⟨R_Se, "holds", "(II)Z"⟩
abbrev b_Se_add : ByteArray := prog_5_method_5_code
def y_Se_add : MethodName := ⟨R_Se, "add", "(II)V"⟩
abbrev b_Se_addAll : ByteArray := prog_5_method_6_code
def y_Se_addAll : MethodName := ⟨R_Se, "addAll", "(ILRowModels$Sets;I)V"⟩
abbrev b_Se_removeAll : ByteArray := prog_5_method_7_code
def y_Se_removeAll : MethodName := ⟨R_Se, "removeAll", "(I)V"⟩
def ALLW : List Cond := lw_tbl.filter goodWord
theorem kmem {w : Cond} (i : Nat) (h : lw_tbl[i]? = some w) (hg : goodWord w = true) : w ∈ ALLW := List.mem_filter.mpr ⟨List.mem_of_getElem? h, hg⟩
theorem ktbl {w : Cond} (h : w ∈ ALLW) : w ∈ lw_tbl := (List.mem_filter.mp h).1
theorem kgood {w : Cond} (h : w ∈ ALLW) : (w.onTables && w.keeps) = true ∨ ∃ ty, w = .arrayClass ty := good_of_word (List.mem_filter.mp h).2
theorem gW {c1 cd : Cond} (h : cd ∈ ALLW) : GoodIn (c1 :: ALLW) (cd :: ALLW) := fun w hw => by
  have hm : w ∈ ALLW := (List.mem_cons.mp hw).elim (fun e => e ▸ h) id
  exact ⟨List.mem_cons_of_mem _ hm, kgood hm⟩
theorem gWV {c1 cd : Cond} {own C : String} {idx : Nat} {y : MethodName} (h1 : Cond.methodLink own idx y ∈ ALLW) (h2 : Cond.instanceMethod y ∈ ALLW) (h3 : Cond.selects C y y ∈ ALLW) (h4 : Cond.initialized C ∈ ALLW) (h : cd ∈ ALLW) : GoodIn (c1 :: ALLW) (wsV own idx C y (cd :: ALLW)) := fun w hw => by
  have hm : w ∈ ALLW := by
    rcases List.mem_append.mp hw with q | q
    · simp only [List.mem_cons, List.not_mem_nil, or_false] at q
      rcases q with rfl | rfl | rfl | rfl <;> assumption
    · exact (List.mem_cons.mp q).elim (fun e => e ▸ h) id
  exact ⟨List.mem_cons_of_mem _ hm, kgood hm⟩
theorem gWS {c1 cd : Cond} {own : String} {idx : Nat} {y : MethodName} (h1 : Cond.methodLink own idx y ∈ ALLW) (h2 : Cond.static y ∈ ALLW) (h4 : Cond.initialized y.cls ∈ ALLW) (h : cd ∈ ALLW) : GoodIn (c1 :: ALLW) (va_wsS own idx y (cd :: ALLW)) := fun w hw => by
  have hm : w ∈ ALLW := by
    rcases List.mem_append.mp hw with q | q
    · simp only [List.mem_cons, List.not_mem_nil, or_false] at q
      rcases q with rfl | rfl | rfl <;> assumption
    · exact (List.mem_cons.mp q).elim (fun e => e ▸ h) id
  exact ⟨List.mem_cons_of_mem _ hm, kgood hm⟩
theorem gLV {cd : Cond} {own C : String} {idx : Nat} {y : MethodName} (h1 : Cond.methodLink own idx y ∈ ALLW) (h2 : Cond.instanceMethod y ∈ ALLW) (h3 : Cond.selects C y y ∈ ALLW) (h4 : Cond.initialized C ∈ ALLW) (h : cd ∈ ALLW) : GoodIn lw_tbl (wsV own idx C y (cd :: ALLW)) := fun w hw => by
  obtain ⟨a, b⟩ := gWV (c1 := cd) h1 h2 h3 h4 h w hw
  have hm : w ∈ ALLW := (List.mem_cons.mp a).elim (fun e => e ▸ h) id
  exact ⟨ktbl hm, b⟩
theorem gL {cd : Cond} (h : cd ∈ ALLW) : GoodIn lw_tbl (cd :: ALLW) := fun w hw => by
  have hm : w ∈ ALLW := (List.mem_cons.mp hw).elim (fun e => e ▸ h) id
  exact ⟨ktbl hm, kgood hm⟩
def zNN (U : State) : Prop := va_Nw (.methodLinkNest R_To 11 y_Dr_init R_To) U ∧ va_Nw (.fieldLinkNest R_To 40 "RowModels$Draft" "partCount" "I" R_To) U ∧ va_Nw (.methodLinkNest R_To 24 y_Re_init R_To) U ∧ va_Nw (.fieldLinkNest R_To 79 "RowModels$Reading" "count" "I" R_To) U ∧ va_Nw (.fieldLinkNest R_To 64 "RowModels$Model" "entries" "[I" R_To) U ∧ va_Nw (.fieldLinkNest R_To 68 "RowModels$Model" "deterministic" "Z" R_To) U ∧ va_AO R_Mo U
def zK (D : va_G) (c : Nat → ClassId) (U : State) : Prop := va_K D vwCl (TY c) U ∧ zNN U
theorem zK.moved {D : va_G} {c : Nat → ClassId} {s U : State} (hW : s.WarmedH U.vm) (h : zK D c s) : zK D c U := ⟨va_K.moved hW.alike h.1, va_Nw.warmM hW h.2.1, va_Nw.warmF hW h.2.2.1, va_Nw.warmM hW h.2.2.2.1, va_Nw.warmF hW h.2.2.2.2.1, va_Nw.warmF hW h.2.2.2.2.2.1, va_Nw.warmF hW h.2.2.2.2.2.2.1, va_AO.moved hW.alike h.2.2.2.2.2.2.2⟩
theorem zK.same {D : va_G} {c : Nat → ClassId} {s U : State} (hvm : s.vm = U.vm) (h : zK D c s) : zK D c U := ⟨va_K.moved (hvm ▸ Vm.Alike.refl s.vm) h.1, va_Nw.same rfl hvm h.2.1, va_Nw.same rfl hvm h.2.2.1, va_Nw.same rfl hvm h.2.2.2.1, va_Nw.same rfl hvm h.2.2.2.2.1, va_Nw.same rfl hvm h.2.2.2.2.2.1, va_Nw.same rfl hvm h.2.2.2.2.2.2.1, va_AO.moved (hvm ▸ Vm.Alike.refl s.vm) h.2.2.2.2.2.2.2⟩
theorem zblind {av : List Value} {D : va_G} {c : Nat → ClassId} {P : Heap → Prop} : FrameBlind (va_Pc av (fun U => P U.heap ∧ zK D c U)) := fun a U g mk q => ⟨q.1, q.2.1, zK.same (s := U) (U := U.calling g mk a) rfl q.2.2⟩
theorem zblindW {av : List Value} {D : va_G} {c : Nat → ClassId} {cl : List vw_C} {ws : va_W} {X : Prop} : FrameBlind (va_Pc av (fun U => (va_P D cl ws U.heap ∧ X) ∧ zK D c U)) := zblind (P := fun h => va_P D cl ws h ∧ X)
theorem zblindA {av : List Value} {D : va_G} {c : Nat → ClassId} {cl : List vw_C} {ws : va_W} {X : Prop} {sz : Nat} : FrameBlind (va_Pc av (fun U => (U.heap.size = sz ∧ va_P D cl ws U.heap ∧ X) ∧ zK D c U)) := zblind (P := fun h => h.size = sz ∧ va_P D cl ws h ∧ X)
abbrev w_To_init : List Cond := .code y_To_init b_To_init 1 none :: ALLW
abbrev w_To_name : List Cond := .code y_To_name b_To_name 2 (some .int) :: ALLW
abbrev w_To_row : List Cond := .code y_To_row b_To_row 1 (some .int) :: ALLW
abbrev w_To_choice : List Cond := .code y_To_choice b_To_choice 1 (some .int) :: ALLW
abbrev w_To_often : List Cond := .code y_To_often b_To_often 2 (some .boolean) :: ALLW
abbrev w_To_clear : List Cond := .code y_To_clear b_To_clear 2 (some .int) :: ALLW
abbrev w_To_make : List Cond := .code y_To_make b_To_make 2 (some .int) :: ALLW
abbrev w_To_size : List Cond := .code y_To_size b_To_size 3 (some .int) :: ALLW
abbrev w_To_isDeterministic : List Cond := .code y_To_isDeterministic b_To_isDeterministic 3 (some .boolean) :: ALLW
abbrev w_To_begin : List Cond := .code y_To_begin b_To_begin 3 (some .boolean) :: ALLW
abbrev w_To_read : List Cond := .code y_To_read b_To_read 2 (some .int) :: ALLW
abbrev w_To_isWhole : List Cond := .code y_To_isWhole b_To_isWhole 1 (some .boolean) :: ALLW
abbrev w_To_can : List Cond := .code y_To_can b_To_can 2 (some .boolean) :: ALLW
abbrev w_To_next : List Cond := .code y_To_next b_To_next 2 (some .int) :: ALLW
abbrev w_To_back : List Cond := .code y_To_back b_To_back 1 (some .int) :: ALLW
abbrev w_To_isName : List Cond := .code y_To_isName b_To_isName 1 (some .boolean) :: ALLW
abbrev w_To_modelAt : List Cond := .code y_To_modelAt b_To_modelAt 2 (some (.object "RowModels$Model")) :: ALLW
abbrev w_Rf_init : List Cond := .code y_Rf_init b_Rf_init 1 none :: ALLW
abbrev w_Rf_node : List Cond := .code y_Rf_node b_Rf_node 6 (some .int) :: ALLW
abbrev w_Rf_isName : List Cond := .code y_Rf_isName b_Rf_isName 1 (some .boolean) :: ALLW
abbrev w_Rf_name : List Cond := .code y_Rf_name b_Rf_name 2 (some .int) :: ALLW
abbrev w_Rf_join : List Cond := .code y_Rf_join b_Rf_join 2 (some .int) :: ALLW
abbrev w_Rf_row : List Cond := .code y_Rf_row b_Rf_row 1 (some .int) :: ALLW
abbrev w_Rf_choice : List Cond := .code y_Rf_choice b_Rf_choice 1 (some .int) :: ALLW
abbrev w_Rf_often : List Cond := .code y_Rf_often b_Rf_often 4 (some .boolean) :: ALLW
abbrev w_Rf_forget : List Cond := .code y_Rf_forget b_Rf_forget 1 none :: ALLW
abbrev w_Rf_clear : List Cond := .code y_Rf_clear b_Rf_clear 2 (some .int) :: ALLW
abbrev w_Rf_make : List Cond := .code y_Rf_make b_Rf_make 1 (some .int) :: ALLW
abbrev w_Rf_isModel : List Cond := .code y_Rf_isModel b_Rf_isModel 2 (some .boolean) :: ALLW
abbrev w_Rf_size : List Cond := .code y_Rf_size b_Rf_size 2 (some .int) :: ALLW
abbrev w_Rf_enter : List Cond := .code y_Rf_enter b_Rf_enter 4 none :: ALLW
abbrev w_Rf_leave : List Cond := .code y_Rf_leave b_Rf_leave 5 none :: ALLW
abbrev w_Rf_clearLater : List Cond := .code y_Rf_clearLater b_Rf_clearLater 3 none :: ALLW
abbrev w_Rf_hasTwins : List Cond := .code y_Rf_hasTwins b_Rf_hasTwins 4 (some .boolean) :: ALLW
abbrev w_Rf_isDeterministic : List Cond := .code y_Rf_isDeterministic b_Rf_isDeterministic 4 (some .boolean) :: ALLW
abbrev w_Rf_first : List Cond := .code y_Rf_first b_Rf_first 2 none :: ALLW
abbrev w_Rf_go : List Cond := .code y_Rf_go b_Rf_go 3 none :: ALLW
abbrev w_Rf_begin : List Cond := .code y_Rf_begin b_Rf_begin 2 (some .boolean) :: ALLW
abbrev w_Rf_read : List Cond := .code y_Rf_read b_Rf_read 2 (some .int) :: ALLW
abbrev w_Rf_isWhole : List Cond := .code y_Rf_isWhole b_Rf_isWhole 1 (some .boolean) :: ALLW
abbrev w_Rf_can : List Cond := .code y_Rf_can b_Rf_can 4 (some .boolean) :: ALLW
abbrev w_Rf_next : List Cond := .code y_Rf_next b_Rf_next 4 (some .int) :: ALLW
abbrev w_Rf_back : List Cond := .code y_Rf_back b_Rf_back 3 (some .int) :: ALLW
abbrev w_Dr_init : List Cond := .code y_Dr_init b_Dr_init 1 none :: ALLW
abbrev w_Dr_hasPart : List Cond := .code y_Dr_hasPart b_Dr_hasPart 2 (some .boolean) :: ALLW
abbrev w_Dr_addName : List Cond := .code y_Dr_addName b_Dr_addName 4 (some .boolean) :: ALLW
abbrev w_Dr_joinToRow : List Cond := .code y_Dr_joinToRow b_Dr_joinToRow 3 (some .boolean) :: ALLW
abbrev w_Dr_joinToChoice : List Cond := .code y_Dr_joinToChoice b_Dr_joinToChoice 3 (some .boolean) :: ALLW
abbrev w_Dr_repeatLast : List Cond := .code y_Dr_repeatLast b_Dr_repeatLast 3 (some .boolean) :: ALLW
abbrev w_Dr_letFollow : List Cond := .code y_Dr_letFollow b_Dr_letFollow 4 none :: ALLW
abbrev w_Dr_dropAll : List Cond := .code y_Dr_dropAll b_Dr_dropAll 1 none :: ALLW
abbrev w_Dr_toModel : List Cond := .code y_Dr_toModel b_Dr_toModel 4 (some (.object "RowModels$Model")) :: ALLW
abbrev w_Mo_init : List Cond := .code y_Mo_init b_Mo_init 3 none :: ALLW
abbrev w_Mo_entry : List Cond := .code y_Mo_entry b_Mo_entry 2 (some .int) :: ALLW
abbrev w_Mo_nameOf : List Cond := .code y_Mo_nameOf b_Mo_nameOf 1 (some .int) :: ALLW
abbrev w_Mo_occurrenceOf : List Cond := .code y_Mo_occurrenceOf b_Mo_occurrenceOf 1 (some .int) :: ALLW
abbrev w_Mo_sort : List Cond := .code y_Mo_sort b_Mo_sort 4 none :: ALLW
abbrev w_Mo_hasTwinsAnywhere : List Cond := .code y_Mo_hasTwinsAnywhere b_Mo_hasTwinsAnywhere 3 (some .boolean) :: ALLW
abbrev w_Mo_hasTwins : List Cond := .code y_Mo_hasTwins b_Mo_hasTwins 5 (some .boolean) :: ALLW
abbrev w_Mo_putFirst : List Cond := .code y_Mo_putFirst b_Mo_putFirst 3 none :: ALLW
abbrev w_Mo_putBehind : List Cond := .code y_Mo_putBehind b_Mo_putBehind 6 none :: ALLW
abbrev w_Mo_hasName : List Cond := .code y_Mo_hasName b_Mo_hasName 5 (some .boolean) :: ALLW
abbrev w_Mo_nameAt : List Cond := .code y_Mo_nameAt b_Mo_nameAt 8 (some .int) :: ALLW
abbrev w_Re_init : List Cond := .code y_Re_init b_Re_init 1 none :: ALLW
abbrev w_Re_startWith : List Cond := .code y_Re_startWith b_Re_startWith 2 none :: ALLW
abbrev w_Re_take : List Cond := .code y_Re_take b_Re_take 2 (some .boolean) :: ALLW
abbrev w_Re_mayEnd : List Cond := .code y_Re_mayEnd b_Re_mayEnd 1 (some .boolean) :: ALLW
abbrev w_Re_mayTake : List Cond := .code y_Re_mayTake b_Re_mayTake 2 (some .boolean) :: ALLW
abbrev w_Re_offer : List Cond := .code y_Re_offer b_Re_offer 2 (some .int) :: ALLW
abbrev w_Re_takeBack : List Cond := .code y_Re_takeBack b_Re_takeBack 2 (some .int) :: ALLW
abbrev w_Se_init : List Cond := .code y_Se_init b_Se_init 2 none :: ALLW
abbrev w_Se_hasSet : List Cond := .code y_Se_hasSet b_Se_hasSet 2 (some .boolean) :: ALLW
abbrev w_Se_hasPlace : List Cond := .code y_Se_hasPlace b_Se_hasPlace 3 (some .boolean) :: ALLW
abbrev w_Se_holds : List Cond := .code y_Se_holds b_Se_holds 3 (some .boolean) :: ALLW
abbrev w_Se_add : List Cond := .code y_Se_add b_Se_add 3 none :: ALLW
abbrev w_Se_addAll : List Cond := .code y_Se_addAll b_Se_addAll 5 none :: ALLW
abbrev w_Se_removeAll : List Cond := .code y_Se_removeAll b_Se_removeAll 3 none :: ALLW
theorem inA_Dr : ∀ w ∈ ws_Dr, w ∈ ALLW := by decide +kernel
theorem inA_Mo : ∀ w ∈ ws_Mo, w ∈ ALLW := by decide +kernel
theorem inA_Re : ∀ w ∈ ws_Re, w ∈ ALLW := by decide +kernel
theorem inA_Se : ∀ w ∈ ws_Se, w ∈ ALLW := by decide +kernel
theorem inA_To : ∀ w ∈ ws_To, w ∈ ALLW := by decide +kernel
theorem inA_Rf : ∀ w ∈ ws_Rf, w ∈ ALLW := by decide +kernel
