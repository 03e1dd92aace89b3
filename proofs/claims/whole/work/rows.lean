section
-- ===== PART A: goes FIRST, ahead of the names: the tables' words, and 'selects' of the private methods out of them =====
/-- a private method of a class that the tables say can be made, by its rows of tables_1 -/
def lw_okq (q : MethodName × Nat) : Prop := (q.1.cls ≠ "java/lang/invoke/MethodHandle" ∧ q.1.cls ≠ "java/lang/invoke/VarHandle") ∧ Cond.instantiable q.1.cls q.2 ∈ tables_1 ∧ Cond.privateMethod q.1 ∈ tables_1 ∧ Cond.instanceMethod q.1 ∈ tables_1
theorem lw_p0 : lw_okq (⟨"RowModels$Sets", "hasSet", "(I)Z"⟩, 1) := ⟨⟨by decide +kernel, by decide +kernel⟩, List.mem_of_getElem? (i := 23) (by decide +kernel), List.mem_of_getElem? (i := 114) (by decide +kernel), List.mem_of_getElem? (i := 115) (by decide +kernel)⟩
theorem lw_p1 : lw_okq (⟨"RowModels$Sets", "hasPlace", "(II)Z"⟩, 1) := ⟨⟨by decide +kernel, by decide +kernel⟩, List.mem_of_getElem? (i := 23) (by decide +kernel), List.mem_of_getElem? (i := 122) (by decide +kernel), List.mem_of_getElem? (i := 123) (by decide +kernel)⟩
theorem lw_p2 : lw_okq (⟨"RowModels$Draft", "hasPart", "(I)Z"⟩, 7) := ⟨⟨by decide +kernel, by decide +kernel⟩, List.mem_of_getElem? (i := 17) (by decide +kernel), List.mem_of_getElem? (i := 134) (by decide +kernel), List.mem_of_getElem? (i := 135) (by decide +kernel)⟩
theorem lw_p3 : lw_okq (⟨"RowModels$Draft", "letFollow", "(II)V"⟩, 7) := ⟨⟨by decide +kernel, by decide +kernel⟩, List.mem_of_getElem? (i := 17) (by decide +kernel), List.mem_of_getElem? (i := 138) (by decide +kernel), List.mem_of_getElem? (i := 139) (by decide +kernel)⟩
theorem lw_p4 : lw_okq (⟨"RowModels", "modelAt", "(I)LRowModels$Model;"⟩, 4) := ⟨⟨by decide +kernel, by decide +kernel⟩, List.mem_of_getElem? (i := 9) (by decide +kernel), List.mem_of_getElem? (i := 224) (by decide +kernel), List.mem_of_getElem? (i := 225) (by decide +kernel)⟩
theorem lw_p5 : lw_okq (⟨"RowModelsModel", "node", "(IIII)I"⟩, 23) := ⟨⟨by decide +kernel, by decide +kernel⟩, List.mem_of_getElem? (i := 299) (by decide +kernel), List.mem_of_getElem? (i := 382) (by decide +kernel), List.mem_of_getElem? (i := 383) (by decide +kernel)⟩
theorem lw_p6 : lw_okq (⟨"RowModelsModel", "join", "(I)I"⟩, 23) := ⟨⟨by decide +kernel, by decide +kernel⟩, List.mem_of_getElem? (i := 299) (by decide +kernel), List.mem_of_getElem? (i := 390) (by decide +kernel), List.mem_of_getElem? (i := 391) (by decide +kernel)⟩
theorem lw_p7 : lw_okq (⟨"RowModelsModel", "forget", "()V"⟩, 23) := ⟨⟨by decide +kernel, by decide +kernel⟩, List.mem_of_getElem? (i := 299) (by decide +kernel), List.mem_of_getElem? (i := 406) (by decide +kernel), List.mem_of_getElem? (i := 407) (by decide +kernel)⟩
theorem lw_p8 : lw_okq (⟨"RowModelsModel", "isModel", "(I)Z"⟩, 23) := ⟨⟨by decide +kernel, by decide +kernel⟩, List.mem_of_getElem? (i := 299) (by decide +kernel), List.mem_of_getElem? (i := 418) (by decide +kernel), List.mem_of_getElem? (i := 419) (by decide +kernel)⟩
theorem lw_p9 : lw_okq (⟨"RowModelsModel", "clearLater", "(I)V"⟩, 23) := ⟨⟨by decide +kernel, by decide +kernel⟩, List.mem_of_getElem? (i := 299) (by decide +kernel), List.mem_of_getElem? (i := 426) (by decide +kernel), List.mem_of_getElem? (i := 427) (by decide +kernel)⟩
theorem lw_p10 : lw_okq (⟨"RowModelsModel", "enter", "(I)V"⟩, 23) := ⟨⟨by decide +kernel, by decide +kernel⟩, List.mem_of_getElem? (i := 299) (by decide +kernel), List.mem_of_getElem? (i := 430) (by decide +kernel), List.mem_of_getElem? (i := 431) (by decide +kernel)⟩
theorem lw_p11 : lw_okq (⟨"RowModelsModel", "hasTwins", "(I)Z"⟩, 23) := ⟨⟨by decide +kernel, by decide +kernel⟩, List.mem_of_getElem? (i := 299) (by decide +kernel), List.mem_of_getElem? (i := 434) (by decide +kernel), List.mem_of_getElem? (i := 435) (by decide +kernel)⟩
theorem lw_p12 : lw_okq (⟨"RowModelsModel", "leave", "(I)V"⟩, 23) := ⟨⟨by decide +kernel, by decide +kernel⟩, List.mem_of_getElem? (i := 299) (by decide +kernel), List.mem_of_getElem? (i := 438) (by decide +kernel), List.mem_of_getElem? (i := 439) (by decide +kernel)⟩
theorem lw_p13 : lw_okq (⟨"RowModelsModel", "first", "()V"⟩, 23) := ⟨⟨by decide +kernel, by decide +kernel⟩, List.mem_of_getElem? (i := 299) (by decide +kernel), List.mem_of_getElem? (i := 446) (by decide +kernel), List.mem_of_getElem? (i := 447) (by decide +kernel)⟩
theorem lw_p14 : lw_okq (⟨"RowModelsModel", "go", "(I)V"⟩, 23) := ⟨⟨by decide +kernel, by decide +kernel⟩, List.mem_of_getElem? (i := 299) (by decide +kernel), List.mem_of_getElem? (i := 454) (by decide +kernel), List.mem_of_getElem? (i := 455) (by decide +kernel)⟩
def lw_privs_1 : List (MethodName × Nat) := [(⟨"RowModels$Sets", "hasSet", "(I)Z"⟩, 1), (⟨"RowModels$Sets", "hasPlace", "(II)Z"⟩, 1), (⟨"RowModels$Draft", "hasPart", "(I)Z"⟩, 7), (⟨"RowModels$Draft", "letFollow", "(II)V"⟩, 7), (⟨"RowModels", "modelAt", "(I)LRowModels$Model;"⟩, 4), (⟨"RowModelsModel", "node", "(IIII)I"⟩, 23), (⟨"RowModelsModel", "join", "(I)I"⟩, 23), (⟨"RowModelsModel", "forget", "()V"⟩, 23), (⟨"RowModelsModel", "isModel", "(I)Z"⟩, 23), (⟨"RowModelsModel", "clearLater", "(I)V"⟩, 23), (⟨"RowModelsModel", "enter", "(I)V"⟩, 23), (⟨"RowModelsModel", "hasTwins", "(I)Z"⟩, 23), (⟨"RowModelsModel", "leave", "(I)V"⟩, 23), (⟨"RowModelsModel", "first", "()V"⟩, 23), (⟨"RowModelsModel", "go", "(I)V"⟩, 23)]
theorem lw_r1 : ∀ q ∈ lw_privs_1, lw_okq q := List.forall_mem_cons.mpr ⟨lw_p0, List.forall_mem_cons.mpr ⟨lw_p1, List.forall_mem_cons.mpr ⟨lw_p2, List.forall_mem_cons.mpr ⟨lw_p3, List.forall_mem_cons.mpr ⟨lw_p4, List.forall_mem_cons.mpr ⟨lw_p5, List.forall_mem_cons.mpr ⟨lw_p6, List.forall_mem_cons.mpr ⟨lw_p7, List.forall_mem_cons.mpr ⟨lw_p8, List.forall_mem_cons.mpr ⟨lw_p9, List.forall_mem_cons.mpr ⟨lw_p10, List.forall_mem_cons.mpr ⟨lw_p11, List.forall_mem_cons.mpr ⟨lw_p12, List.forall_mem_cons.mpr ⟨lw_p13, List.forall_mem_cons.mpr ⟨lw_p14, fun _ h => absurd h List.not_mem_nil⟩⟩⟩⟩⟩⟩⟩⟩⟩⟩⟩⟩⟩⟩⟩
def lw_privs : List (MethodName × Nat) := lw_privs_1
def lw_tbl : List Cond := k2_sels lw_privs ++ tables_1
theorem lw_privs_ok : ∀ q ∈ lw_privs, lw_okq q := lw_r1

def R_law : String := "RowModelsLaw"
def R_Dr : String := "RowModels$Draft"
def T_Dr : u_T := fun k => match k with
  | 0 => ("RowModels$Draft", "names", "[I", true)
  | 1 => ("RowModels$Draft", "followers", "LRowModels$Sets;", true)
  | 2 => ("RowModels$Draft", "firsts", "LRowModels$Sets;", true)
  | 3 => ("RowModels$Draft", "lasts", "LRowModels$Sets;", true)
  | 4 => ("RowModels$Draft", "mayBeNone", "[Z", true)
  | 5 => ("RowModels$Draft", "nameCount", "I", false)
  | _ => ("RowModels$Draft", "partCount", "I", false)
def ty_Dr : Nat → FieldType := fun k => match k with
  | 0 => .array .int
  | 1 => .object "RowModels$Sets"
  | 2 => .object "RowModels$Sets"
  | 3 => .object "RowModels$Sets"
  | 4 => .array .boolean
  | 5 => .int
  | _ => .int
abbrev ws_Dr : List Cond := u_ws R_Dr T_Dr 7
theorem nm_Dr : ∀ a, a < 7 → ∀ b, b < 7 → a ≠ b → (T_Dr a).2.1 ≠ (T_Dr b).2.1 := by decide +kernel
theorem tyok_Dr : ∀ k, k < 7 → parseFieldDescriptor (T_Dr k).2.2.1 = some (ty_Dr k) := by decide +kernel
def R_Mo : String := "RowModels$Model"
def T_Mo : u_T := fun k => match k with
  | 0 => ("RowModels$Model", "entries", "[I", true)
  | 1 => ("RowModels$Model", "followers", "LRowModels$Sets;", true)
  | _ => ("RowModels$Model", "deterministic", "Z", true)
def ty_Mo : Nat → FieldType := fun k => match k with
  | 0 => .array .int
  | 1 => .object "RowModels$Sets"
  | _ => .boolean
abbrev ws_Mo : List Cond := u_ws R_Mo T_Mo 3
theorem nm_Mo : ∀ a, a < 3 → ∀ b, b < 3 → a ≠ b → (T_Mo a).2.1 ≠ (T_Mo b).2.1 := by decide +kernel
theorem tyok_Mo : ∀ k, k < 3 → parseFieldDescriptor (T_Mo k).2.2.1 = some (ty_Mo k) := by decide +kernel
def R_Re : String := "RowModels$Reading"
def T_Re : u_T := fun k => match k with
  | 0 => ("RowModels$Reading", "names", "[I", true)
  | 1 => ("RowModels$Reading", "comes", "LRowModels$Sets;", true)
  | 2 => ("RowModels$Reading", "model", "LRowModels$Model;", false)
  | _ => ("RowModels$Reading", "count", "I", false)
def ty_Re : Nat → FieldType := fun k => match k with
  | 0 => .array .int
  | 1 => .object "RowModels$Sets"
  | 2 => .object "RowModels$Model"
  | _ => .int
abbrev ws_Re : List Cond := u_ws R_Re T_Re 4
theorem nm_Re : ∀ a, a < 4 → ∀ b, b < 4 → a ≠ b → (T_Re a).2.1 ≠ (T_Re b).2.1 := by decide +kernel
theorem tyok_Re : ∀ k, k < 4 → parseFieldDescriptor (T_Re k).2.2.1 = some (ty_Re k) := by decide +kernel
def R_Se : String := "RowModels$Sets"
def T_Se : u_T := fun k => match k with
  | _ => ("RowModels$Sets", "words", "[J", true)
def ty_Se : Nat → FieldType := fun k => match k with
  | _ => .array .long
abbrev ws_Se : List Cond := u_ws R_Se T_Se 1
theorem nm_Se : ∀ a, a < 1 → ∀ b, b < 1 → a ≠ b → (T_Se a).2.1 ≠ (T_Se b).2.1 := by decide +kernel
theorem tyok_Se : ∀ k, k < 1 → parseFieldDescriptor (T_Se k).2.2.1 = some (ty_Se k) := by decide +kernel
def R_To : String := "RowModels"
def T_To : u_T := fun k => match k with
  | 0 => ("RowModels", "draft", "LRowModels$Draft;", true)
  | 1 => ("RowModels", "models", "[LRowModels$Model;", true)
  | 2 => ("RowModels", "reading", "LRowModels$Reading;", true)
  | _ => ("RowModels", "modelCount", "I", false)
def ty_To : Nat → FieldType := fun k => match k with
  | 0 => .object "RowModels$Draft"
  | 1 => .array (.object "RowModels$Model")
  | 2 => .object "RowModels$Reading"
  | _ => .int
abbrev ws_To : List Cond := u_ws R_To T_To 4
theorem nm_To : ∀ a, a < 4 → ∀ b, b < 4 → a ≠ b → (T_To a).2.1 ≠ (T_To b).2.1 := by decide +kernel
theorem tyok_To : ∀ k, k < 4 → parseFieldDescriptor (T_To k).2.2.1 = some (ty_To k) := by decide +kernel
def R_Rf : String := "RowModelsModel"
def T_Rf : u_T := fun k => match k with
  | 0 => ("RowModelsModel", "kinds", "[I", true)
  | 1 => ("RowModelsModel", "names", "[I", true)
  | 2 => ("RowModelsModel", "lefts", "[I", true)
  | 3 => ("RowModelsModel", "rights", "[I", true)
  | 4 => ("RowModelsModel", "aboves", "[I", true)
  | 5 => ("RowModelsModel", "empty", "[Z", true)
  | 6 => ("RowModelsModel", "nodes", "I", false)
  | 7 => ("RowModelsModel", "parts", "[I", true)
  | 8 => ("RowModelsModel", "count", "I", false)
  | 9 => ("RowModelsModel", "draftNames", "I", false)
  | 10 => ("RowModelsModel", "draftBegin", "I", false)
  | 11 => ("RowModelsModel", "begins", "[I", true)
  | 12 => ("RowModelsModel", "roots", "[I", true)
  | 13 => ("RowModelsModel", "sizes", "[I", true)
  | 14 => ("RowModelsModel", "models", "I", false)
  | 15 => ("RowModelsModel", "model", "I", false)
  | 16 => ("RowModelsModel", "read", "[I", true)
  | 17 => ("RowModelsModel", "reads", "I", false)
  | 18 => ("RowModelsModel", "can", "[Z", true)
  | 19 => ("RowModelsModel", "later", "[Z", true)
  | 20 => ("RowModelsModel", "whole", "Z", false)
  | 21 => ("RowModelsModel", "laterWhole", "Z", false)
  | _ => ("RowModelsModel", "todo", "[I", true)
def ty_Rf : Nat → FieldType := fun k => match k with
  | 0 => .array .int
  | 1 => .array .int
  | 2 => .array .int
  | 3 => .array .int
  | 4 => .array .int
  | 5 => .array .boolean
  | 6 => .int
  | 7 => .array .int
  | 8 => .int
  | 9 => .int
  | 10 => .int
  | 11 => .array .int
  | 12 => .array .int
  | 13 => .array .int
  | 14 => .int
  | 15 => .int
  | 16 => .array .int
  | 17 => .int
  | 18 => .array .boolean
  | 19 => .array .boolean
  | 20 => .boolean
  | 21 => .boolean
  | _ => .array .int
abbrev ws_Rf : List Cond := u_ws R_Rf T_Rf 23
theorem nm_Rf : ∀ a, a < 23 → ∀ b, b < 23 → a ≠ b → (T_Rf a).2.1 ≠ (T_Rf b).2.1 := by decide +kernel
theorem tyok_Rf : ∀ k, k < 23 → parseFieldDescriptor (T_Rf k).2.2.1 = some (ty_Rf k) := by decide +kernel
abbrev vwCl : List vw_C := [(R_Dr, T_Dr, 7), (R_Mo, T_Mo, 3), (R_Re, T_Re, 4), (R_Se, T_Se, 1), (R_To, T_To, 4), (R_Rf, T_Rf, 23)]
abbrev TY (c : Nat → ClassId) : List (ClassId × FieldType) := [(c 0, .int), (c 1, .boolean), (c 2, .long), (c 3, .object R_Mo)]
abbrev b_To_init : ByteArray := prog_1_method_1_code
def y_To_init : MethodName := ⟨R_To, "<init>", "()V"⟩
abbrev b_To_name : ByteArray := prog_1_method_2_code
def y_To_name : MethodName := ⟨R_To, "name", "(I)I"⟩
abbrev b_To_row : ByteArray := prog_1_method_3_code
def y_To_row : MethodName := ⟨R_To, "row", "()I"⟩
abbrev b_To_choice : ByteArray := prog_1_method_4_code
def y_To_choice : MethodName := ⟨R_To, "choice", "()I"⟩
abbrev b_To_often : ByteArray := prog_1_method_5_code
def y_To_often : MethodName := ⟨R_To, "often", "(I)Z"⟩
abbrev b_To_clear : ByteArray := prog_1_method_6_code
def y_To_clear : MethodName := ⟨R_To, "clear", "()I"⟩
abbrev b_To_make : ByteArray := prog_1_method_7_code
def y_To_make : MethodName := ⟨R_To, "make", "()I"⟩
abbrev b_To_size : ByteArray := prog_1_method_8_code
def y_To_size : MethodName := ⟨R_To, "size", "(I)I"⟩
abbrev b_To_isDeterministic : ByteArray := prog_1_method_9_code
def y_To_isDeterministic : MethodName := ⟨R_To, "isDeterministic", "(I)Z"⟩
abbrev b_To_begin : ByteArray := prog_1_method_10_code
def y_To_begin : MethodName := ⟨R_To, "begin", "(I)Z"⟩
abbrev b_To_read : ByteArray := prog_1_method_11_code
def y_To_read : MethodName := ⟨R_To, "read", "(I)I"⟩
abbrev b_To_isWhole : ByteArray := prog_1_method_12_code
def y_To_isWhole : MethodName := ⟨R_To, "isWhole", "()Z"⟩
abbrev b_To_can : ByteArray := prog_1_method_13_code
def y_To_can : MethodName := ⟨R_To, "can", "(I)Z"⟩
abbrev b_To_next : ByteArray := prog_1_method_14_code
def y_To_next : MethodName := ⟨R_To, "next", "(I)I"⟩
abbrev b_To_back : ByteArray := prog_1_method_15_code
def y_To_back : MethodName := ⟨R_To, "back", "()I"⟩
abbrev b_To_isName : ByteArray := prog_1_method_16_code
def y_To_isName : MethodName := ⟨R_To, "isName", "(I)Z"⟩
abbrev b_To_modelAt : ByteArray := prog_1_method_17_code
def y_To_modelAt : MethodName := ⟨R_To, "modelAt", "(I)LRowModels$Model;"⟩
abbrev b_Rf_init : ByteArray := prog_7_method_1_code
def y_Rf_init : MethodName := ⟨R_Rf, "<init>", "()V"⟩
abbrev b_Rf_node : ByteArray := prog_7_method_2_code
def y_Rf_node : MethodName := ⟨R_Rf, "node", "(IIII)I"⟩
abbrev b_Rf_isName : ByteArray := prog_7_method_3_code
def y_Rf_isName : MethodName := ⟨R_Rf, "isName", "(I)Z"⟩
abbrev b_Rf_name : ByteArray := prog_7_method_4_code
def y_Rf_name : MethodName := ⟨R_Rf, "name", "(I)I"⟩
abbrev b_Rf_join : ByteArray := prog_7_method_5_code
def y_Rf_join : MethodName := ⟨R_Rf, "join", "(I)I"⟩
abbrev b_Rf_row : ByteArray := prog_7_method_6_code
def y_Rf_row : MethodName := ⟨R_Rf, "row", "()I"⟩
abbrev b_Rf_choice : ByteArray := prog_7_method_7_code
def y_Rf_choice : MethodName := ⟨R_Rf, "choice", "()I"⟩
abbrev b_Rf_often : ByteArray := prog_7_method_8_code
def y_Rf_often : MethodName := ⟨R_Rf, "often", "(I)Z"⟩
abbrev b_Rf_forget : ByteArray := prog_7_method_9_code
def y_Rf_forget : MethodName := ⟨R_Rf, "forget", "()V"⟩
abbrev b_Rf_clear : ByteArray := prog_7_method_10_code
def y_Rf_clear : MethodName := ⟨R_Rf, "clear", "()I"⟩
abbrev b_Rf_make : ByteArray := prog_7_method_11_code
def y_Rf_make : MethodName := ⟨R_Rf, "make", "()I"⟩
abbrev b_Rf_isModel : ByteArray := prog_7_method_12_code
def y_Rf_isModel : MethodName := ⟨R_Rf, "isModel", "(I)Z"⟩
abbrev b_Rf_size : ByteArray := prog_7_method_13_code
def y_Rf_size : MethodName := ⟨R_Rf, "size", "(I)I"⟩
abbrev b_Rf_enter : ByteArray := prog_7_method_14_code
def y_Rf_enter : MethodName := ⟨R_Rf, "enter", "(I)V"⟩
abbrev b_Rf_leave : ByteArray := prog_7_method_15_code
def y_Rf_leave : MethodName := ⟨R_Rf, "leave", "(I)V"⟩
abbrev b_Rf_clearLater : ByteArray := prog_7_method_16_code
def y_Rf_clearLater : MethodName := ⟨R_Rf, "clearLater", "(I)V"⟩
abbrev b_Rf_hasTwins : ByteArray := prog_7_method_17_code
def y_Rf_hasTwins : MethodName := ⟨R_Rf, "hasTwins", "(I)Z"⟩
abbrev b_Rf_isDeterministic : ByteArray := prog_7_method_18_code
def y_Rf_isDeterministic : MethodName := ⟨R_Rf, "isDeterministic", "(I)Z"⟩
abbrev b_Rf_first : ByteArray := prog_7_method_19_code
def y_Rf_first : MethodName := ⟨R_Rf, "first", "()V"⟩
abbrev b_Rf_go : ByteArray := prog_7_method_20_code
def y_Rf_go : MethodName := ⟨R_Rf, "go", "(I)V"⟩
abbrev b_Rf_begin : ByteArray := prog_7_method_21_code
def y_Rf_begin : MethodName := ⟨R_Rf, "begin", "(I)Z"⟩
abbrev b_Rf_read : ByteArray := prog_7_method_22_code
def y_Rf_read : MethodName := ⟨R_Rf, "read", "(I)I"⟩
abbrev b_Rf_isWhole : ByteArray := prog_7_method_23_code
def y_Rf_isWhole : MethodName := ⟨R_Rf, "isWhole", "()Z"⟩
abbrev b_Rf_can : ByteArray := prog_7_method_24_code
def y_Rf_can : MethodName := ⟨R_Rf, "can", "(I)Z"⟩
abbrev b_Rf_next : ByteArray := prog_7_method_25_code
def y_Rf_next : MethodName := ⟨R_Rf, "next", "(I)I"⟩
abbrev b_Rf_back : ByteArray := prog_7_method_26_code
def y_Rf_back : MethodName := ⟨R_Rf, "back", "()I"⟩
abbrev b_Dr_init : ByteArray := prog_2_method_1_code
def y_Dr_init : MethodName := ⟨R_Dr, "<init>", "()V"⟩
abbrev b_Dr_hasPart : ByteArray := prog_2_method_2_code
def y_Dr_hasPart : MethodName := ⟨R_Dr, "hasPart", "(I)Z"⟩
abbrev b_Dr_addName : ByteArray := prog_2_method_3_code
def y_Dr_addName : MethodName := ⟨R_Dr, "addName", "(I)Z"⟩
abbrev b_Dr_joinToRow : ByteArray := prog_2_method_4_code
def y_Dr_joinToRow : MethodName := ⟨R_Dr, "joinToRow", "()Z"⟩
abbrev b_Dr_joinToChoice : ByteArray := prog_2_method_5_code
def y_Dr_joinToChoice : MethodName := ⟨R_Dr, "joinToChoice", "()Z"⟩
abbrev b_Dr_repeatLast : ByteArray := prog_2_method_6_code
def y_Dr_repeatLast : MethodName := ⟨R_Dr, "repeatLast", "(I)Z"⟩
abbrev b_Dr_letFollow : ByteArray := prog_2_method_7_code
def y_Dr_letFollow : MethodName := ⟨R_Dr, "letFollow", "(II)V"⟩
abbrev b_Dr_dropAll : ByteArray := prog_2_method_8_code
def y_Dr_dropAll : MethodName := ⟨R_Dr, "dropAll", "()V"⟩
abbrev b_Dr_toModel : ByteArray := prog_2_method_9_code
def y_Dr_toModel : MethodName := ⟨R_Dr, "toModel", "()LRowModels$Model;"⟩
abbrev b_Mo_init : ByteArray := prog_3_method_1_code
def y_Mo_init : MethodName := ⟨R_Mo, "<init>", "([ILRowModels$Sets;)V"⟩
abbrev b_Mo_entry : ByteArray := prog_3_method_2_code
def y_Mo_entry : MethodName := ⟨R_Mo, "entry", "(II)I"⟩
abbrev b_Mo_nameOf : ByteArray := prog_3_method_3_code
def y_Mo_nameOf : MethodName := ⟨R_Mo, "nameOf", "(I)I"⟩
abbrev b_Mo_occurrenceOf : ByteArray := prog_3_method_4_code
def y_Mo_occurrenceOf : MethodName := ⟨R_Mo, "occurrenceOf", "(I)I"⟩
abbrev b_Mo_sort : ByteArray := prog_3_method_5_code
def y_Mo_sort : MethodName := ⟨R_Mo, "sort", "([I)V"⟩
abbrev b_Mo_hasTwinsAnywhere : ByteArray := prog_3_method_6_code
def y_Mo_hasTwinsAnywhere : MethodName := ⟨R_Mo, "hasTwinsAnywhere", "([ILRowModels$Sets;)Z"⟩
abbrev b_Mo_hasTwins : ByteArray := prog_3_method_7_code
def y_Mo_hasTwins : MethodName := ⟨R_Mo, "hasTwins", "([ILRowModels$Sets;I)Z"⟩
abbrev b_Mo_putFirst : ByteArray := prog_3_method_8_code
def y_Mo_putFirst : MethodName := ⟨R_Mo, "putFirst", "(LRowModels$Sets;I)V"⟩
abbrev b_Mo_putBehind : ByteArray := prog_3_method_9_code
def y_Mo_putBehind : MethodName := ⟨R_Mo, "putBehind", "(LRowModels$Sets;II)V"⟩
abbrev b_Mo_hasName : ByteArray := prog_3_method_10_code
def y_Mo_hasName : MethodName := ⟨R_Mo, "hasName", "(LRowModels$Sets;II)Z"⟩
abbrev b_Mo_nameAt : ByteArray := prog_3_method_11_code
def y_Mo_nameAt : MethodName := ⟨R_Mo, "nameAt", "(LRowModels$Sets;II)I"⟩
abbrev b_Re_init : ByteArray := prog_4_method_1_code
def y_Re_init : MethodName := ⟨R_Re, "<init>", "()V"⟩
abbrev b_Re_startWith : ByteArray := prog_4_method_2_code
def y_Re_startWith : MethodName := ⟨R_Re, "startWith", "(LRowModels$Model;)V"⟩
abbrev b_Re_take : ByteArray := prog_4_method_3_code
def y_Re_take : MethodName := ⟨R_Re, "take", "(I)Z"⟩
abbrev b_Re_mayEnd : ByteArray := prog_4_method_4_code
def y_Re_mayEnd : MethodName := ⟨R_Re, "mayEnd", "()Z"⟩
abbrev b_Re_mayTake : ByteArray := prog_4_method_5_code
def y_Re_mayTake : MethodName := ⟨R_Re, "mayTake", "(I)Z"⟩
abbrev b_Re_offer : ByteArray := prog_4_method_6_code
def y_Re_offer : MethodName := ⟨R_Re, "offer", "(I)I"⟩
abbrev b_Re_takeBack : ByteArray := prog_4_method_7_code
def y_Re_takeBack : MethodName := ⟨R_Re, "takeBack", "()I"⟩
abbrev b_Se_init : ByteArray := prog_5_method_1_code
def y_Se_init : MethodName := ⟨R_Se, "<init>", "(I)V"⟩
abbrev b_Se_hasSet : ByteArray := prog_5_method_2_code
def y_Se_hasSet : MethodName := ⟨R_Se, "hasSet", "(I)Z"⟩
abbrev b_Se_hasPlace : ByteArray := prog_5_method_3_code
def y_Se_hasPlace : MethodName := ⟨R_Se, "hasPlace", "(II)Z"⟩
abbrev b_Se_holds : ByteArray := prog_5_method_4_code
def y_Se_holds : MethodName := ⟨R_Se, "holds", "(II)Z"⟩
abbrev b_Se_add : ByteArray := prog_5_method_5_code
def y_Se_add : MethodName := ⟨R_Se, "add", "(II)V"⟩
abbrev b_Se_addAll : ByteArray := prog_5_method_6_code
def y_Se_addAll : MethodName := ⟨R_Se, "addAll", "(ILRowModels$Sets;I)V"⟩
abbrev b_Se_removeAll : ByteArray := prog_5_method_7_code
def y_Se_removeAll : MethodName := ⟨R_Se, "removeAll", "(I)V"⟩
def ALLW : List Cond := lw_tbl.filter goodWord
theorem kmem {w : Cond} (i : Nat) (h : lw_tbl[i]? = some w) (hg : goodWord w = true) : w ∈ ALLW := List.mem_filter.mpr ⟨List.mem_of_getElem? h, hg⟩
theorem ktbl {w : Cond} (h : w ∈ ALLW) : w ∈ lw_tbl := (List.mem_filter.mp h).1
theorem kgood {w : Cond} (h : w ∈ ALLW) : (w.onTables && w.keeps) = true ∨ ∃ ty, w = .arrayClass ty := good_of_word (List.mem_filter.mp h).2
theorem gW {c1 cd : Cond} (h : cd ∈ ALLW) : GoodIn (c1 :: ALLW) (cd :: ALLW) := fun w hw => by
  have hm : w ∈ ALLW := (List.mem_cons.mp hw).elim (fun e => e ▸ h) id
  exact ⟨List.mem_cons_of_mem _ hm, kgood hm⟩
theorem gWV {c1 cd : Cond} {own C : String} {idx : Nat} {y : MethodName} (h1 : Cond.methodLink own idx y ∈ ALLW) (h2 : Cond.instanceMethod y ∈ ALLW) (h3 : Cond.selects C y y ∈ ALLW) (h4 : Cond.initialized C ∈ ALLW) (h : cd ∈ ALLW) : GoodIn (c1 :: ALLW) (wsV own idx C y (cd :: ALLW)) := fun w hw => by
  have hm : w ∈ ALLW := by
    rcases List.mem_append.mp hw with q | q
    · simp only [List.mem_cons, List.not_mem_nil, or_false] at q
      rcases q with rfl | rfl | rfl | rfl <;> assumption
    · exact (List.mem_cons.mp q).elim (fun e => e ▸ h) id
  exact ⟨List.mem_cons_of_mem _ hm, kgood hm⟩
theorem gWS {c1 cd : Cond} {own : String} {idx : Nat} {y : MethodName} (h1 : Cond.methodLink own idx y ∈ ALLW) (h2 : Cond.static y ∈ ALLW) (h4 : Cond.initialized y.cls ∈ ALLW) (h : cd ∈ ALLW) : GoodIn (c1 :: ALLW) (va_wsS own idx y (cd :: ALLW)) := fun w hw => by
  have hm : w ∈ ALLW := by
    rcases List.mem_append.mp hw with q | q
    · simp only [List.mem_cons, List.not_mem_nil, or_false] at q
      rcases q with rfl | rfl | rfl <;> assumption
    · exact (List.mem_cons.mp q).elim (fun e => e ▸ h) id
  exact ⟨List.mem_cons_of_mem _ hm, kgood hm⟩
theorem gLV {cd : Cond} {own C : String} {idx : Nat} {y : MethodName} (h1 : Cond.methodLink own idx y ∈ ALLW) (h2 : Cond.instanceMethod y ∈ ALLW) (h3 : Cond.selects C y y ∈ ALLW) (h4 : Cond.initialized C ∈ ALLW) (h : cd ∈ ALLW) : GoodIn lw_tbl (wsV own idx C y (cd :: ALLW)) := fun w hw => by
  obtain ⟨a, b⟩ := gWV (c1 := cd) h1 h2 h3 h4 h w hw
  have hm : w ∈ ALLW := (List.mem_cons.mp a).elim (fun e => e ▸ h) id
  exact ⟨ktbl hm, b⟩
theorem gL {cd : Cond} (h : cd ∈ ALLW) : GoodIn lw_tbl (cd :: ALLW) := fun w hw => by
  have hm : w ∈ ALLW := (List.mem_cons.mp hw).elim (fun e => e ▸ h) id
  exact ⟨ktbl hm, kgood hm⟩
def zNN (U : State) : Prop := va_Nw (.methodLinkNest R_To 11 y_Dr_init R_To) U ∧ va_Nw (.fieldLinkNest R_To 40 "RowModels$Draft" "partCount" "I" R_To) U ∧ va_Nw (.methodLinkNest R_To 24 y_Re_init R_To) U ∧ va_Nw (.fieldLinkNest R_To 79 "RowModels$Reading" "count" "I" R_To) U ∧ va_Nw (.fieldLinkNest R_To 64 "RowModels$Model" "entries" "[I" R_To) U ∧ va_Nw (.fieldLinkNest R_To 68 "RowModels$Model" "deterministic" "Z" R_To) U ∧ va_AO R_Mo U
def zK (D : va_G) (c : Nat → ClassId) (U : State) : Prop := va_K D vwCl (TY c) U ∧ zNN U
theorem zK.moved {D : va_G} {c : Nat → ClassId} {s U : State} (hW : s.WarmedH U.vm) (h : zK D c s) : zK D c U := ⟨va_K.moved hW.alike h.1, va_Nw.warmM hW h.2.1, va_Nw.warmF hW h.2.2.1, va_Nw.warmM hW h.2.2.2.1, va_Nw.warmF hW h.2.2.2.2.1, va_Nw.warmF hW h.2.2.2.2.2.1, va_Nw.warmF hW h.2.2.2.2.2.2.1, va_AO.moved hW.alike h.2.2.2.2.2.2.2⟩
theorem zK.same {D : va_G} {c : Nat → ClassId} {s U : State} (hvm : s.vm = U.vm) (h : zK D c s) : zK D c U := ⟨va_K.moved (hvm ▸ Vm.Alike.refl s.vm) h.1, va_Nw.same rfl hvm h.2.1, va_Nw.same rfl hvm h.2.2.1, va_Nw.same rfl hvm h.2.2.2.1, va_Nw.same rfl hvm h.2.2.2.2.1, va_Nw.same rfl hvm h.2.2.2.2.2.1, va_Nw.same rfl hvm h.2.2.2.2.2.2.1, va_AO.moved (hvm ▸ Vm.Alike.refl s.vm) h.2.2.2.2.2.2.2⟩
theorem zblind {av : List Value} {D : va_G} {c : Nat → ClassId} {P : Heap → Prop} : FrameBlind (va_Pc av (fun U => P U.heap ∧ zK D c U)) := fun a U g mk q => ⟨q.1, q.2.1, zK.same (s := U) (U := U.calling g mk a) rfl q.2.2⟩
theorem zblindW {av : List Value} {D : va_G} {c : Nat → ClassId} {cl : List vw_C} {ws : va_W} {X : Prop} : FrameBlind (va_Pc av (fun U => (va_P D cl ws U.heap ∧ X) ∧ zK D c U)) := zblind (P := fun h => va_P D cl ws h ∧ X)
theorem zblindA {av : List Value} {D : va_G} {c : Nat → ClassId} {cl : List vw_C} {ws : va_W} {X : Prop} {sz : Nat} : FrameBlind (va_Pc av (fun U => (U.heap.size = sz ∧ va_P D cl ws U.heap ∧ X) ∧ zK D c U)) := zblind (P := fun h => h.size = sz ∧ va_P D cl ws h ∧ X)
abbrev w_To_init : List Cond := .code y_To_init b_To_init 1 none :: ALLW
abbrev w_To_name : List Cond := .code y_To_name b_To_name 2 (some .int) :: ALLW
abbrev w_To_row : List Cond := .code y_To_row b_To_row 1 (some .int) :: ALLW
abbrev w_To_choice : List Cond := .code y_To_choice b_To_choice 1 (some .int) :: ALLW
abbrev w_To_often : List Cond := .code y_To_often b_To_often 2 (some .boolean) :: ALLW
abbrev w_To_clear : List Cond := .code y_To_clear b_To_clear 2 (some .int) :: ALLW
abbrev w_To_make : List Cond := .code y_To_make b_To_make 2 (some .int) :: ALLW
abbrev w_To_size : List Cond := .code y_To_size b_To_size 3 (some .int) :: ALLW
abbrev w_To_isDeterministic : List Cond := .code y_To_isDeterministic b_To_isDeterministic 3 (some .boolean) :: ALLW
abbrev w_To_begin : List Cond := .code y_To_begin b_To_begin 3 (some .boolean) :: ALLW
abbrev w_To_read : List Cond := .code y_To_read b_To_read 2 (some .int) :: ALLW
abbrev w_To_isWhole : List Cond := .code y_To_isWhole b_To_isWhole 1 (some .boolean) :: ALLW
abbrev w_To_can : List Cond := .code y_To_can b_To_can 2 (some .boolean) :: ALLW
abbrev w_To_next : List Cond := .code y_To_next b_To_next 2 (some .int) :: ALLW
abbrev w_To_back : List Cond := .code y_To_back b_To_back 1 (some .int) :: ALLW
abbrev w_To_isName : List Cond := .code y_To_isName b_To_isName 1 (some .boolean) :: ALLW
abbrev w_To_modelAt : List Cond := .code y_To_modelAt b_To_modelAt 2 (some (.object "RowModels$Model")) :: ALLW
abbrev w_Rf_init : List Cond := .code y_Rf_init b_Rf_init 1 none :: ALLW
abbrev w_Rf_node : List Cond := .code y_Rf_node b_Rf_node 6 (some .int) :: ALLW
abbrev w_Rf_isName : List Cond := .code y_Rf_isName b_Rf_isName 1 (some .boolean) :: ALLW
abbrev w_Rf_name : List Cond := .code y_Rf_name b_Rf_name 2 (some .int) :: ALLW
abbrev w_Rf_join : List Cond := .code y_Rf_join b_Rf_join 2 (some .int) :: ALLW
abbrev w_Rf_row : List Cond := .code y_Rf_row b_Rf_row 1 (some .int) :: ALLW
abbrev w_Rf_choice : List Cond := .code y_Rf_choice b_Rf_choice 1 (some .int) :: ALLW
abbrev w_Rf_often : List Cond := .code y_Rf_often b_Rf_often 4 (some .boolean) :: ALLW
abbrev w_Rf_forget : List Cond := .code y_Rf_forget b_Rf_forget 1 none :: ALLW
abbrev w_Rf_clear : List Cond := .code y_Rf_clear b_Rf_clear 2 (some .int) :: ALLW
abbrev w_Rf_make : List Cond := .code y_Rf_make b_Rf_make 1 (some .int) :: ALLW
abbrev w_Rf_isModel : List Cond := .code y_Rf_isModel b_Rf_isModel 2 (some .boolean) :: ALLW
abbrev w_Rf_size : List Cond := .code y_Rf_size b_Rf_size 2 (some .int) :: ALLW
abbrev w_Rf_enter : List Cond := .code y_Rf_enter b_Rf_enter 4 none :: ALLW
abbrev w_Rf_leave : List Cond := .code y_Rf_leave b_Rf_leave 5 none :: ALLW
abbrev w_Rf_clearLater : List Cond := .code y_Rf_clearLater b_Rf_clearLater 3 none :: ALLW
abbrev w_Rf_hasTwins : List Cond := .code y_Rf_hasTwins b_Rf_hasTwins 4 (some .boolean) :: ALLW
abbrev w_Rf_isDeterministic : List Cond := .code y_Rf_isDeterministic b_Rf_isDeterministic 4 (some .boolean) :: ALLW
abbrev w_Rf_first : List Cond := .code y_Rf_first b_Rf_first 2 none :: ALLW
abbrev w_Rf_go : List Cond := .code y_Rf_go b_Rf_go 3 none :: ALLW
abbrev w_Rf_begin : List Cond := .code y_Rf_begin b_Rf_begin 2 (some .boolean) :: ALLW
abbrev w_Rf_read : List Cond := .code y_Rf_read b_Rf_read 2 (some .int) :: ALLW
abbrev w_Rf_isWhole : List Cond := .code y_Rf_isWhole b_Rf_isWhole 1 (some .boolean) :: ALLW
abbrev w_Rf_can : List Cond := .code y_Rf_can b_Rf_can 4 (some .boolean) :: ALLW
abbrev w_Rf_next : List Cond := .code y_Rf_next b_Rf_next 4 (some .int) :: ALLW
abbrev w_Rf_back : List Cond := .code y_Rf_back b_Rf_back 3 (some .int) :: ALLW
abbrev w_Dr_init : List Cond := .code y_Dr_init b_Dr_init 1 none :: ALLW
abbrev w_Dr_hasPart : List Cond := .code y_Dr_hasPart b_Dr_hasPart 2 (some .boolean) :: ALLW
abbrev w_Dr_addName : List Cond := .code y_Dr_addName b_Dr_addName 4 (some .boolean) :: ALLW
abbrev w_Dr_joinToRow : List Cond := .code y_Dr_joinToRow b_Dr_joinToRow 3 (some .boolean) :: ALLW
abbrev w_Dr_joinToChoice : List Cond := .code y_Dr_joinToChoice b_Dr_joinToChoice 3 (some .boolean) :: ALLW
abbrev w_Dr_repeatLast : List Cond := .code y_Dr_repeatLast b_Dr_repeatLast 3 (some .boolean) :: ALLW
abbrev w_Dr_letFollow : List Cond := .code y_Dr_letFollow b_Dr_letFollow 4 none :: ALLW
abbrev w_Dr_dropAll : List Cond := .code y_Dr_dropAll b_Dr_dropAll 1 none :: ALLW
abbrev w_Dr_toModel : List Cond := .code y_Dr_toModel b_Dr_toModel 4 (some (.object "RowModels$Model")) :: ALLW
abbrev w_Mo_init : List Cond := .code y_Mo_init b_Mo_init 3 none :: ALLW
abbrev w_Mo_entry : List Cond := .code y_Mo_entry b_Mo_entry 2 (some .int) :: ALLW
abbrev w_Mo_nameOf : List Cond := .code y_Mo_nameOf b_Mo_nameOf 1 (some .int) :: ALLW
abbrev w_Mo_occurrenceOf : List Cond := .code y_Mo_occurrenceOf b_Mo_occurrenceOf 1 (some .int) :: ALLW
abbrev w_Mo_sort : List Cond := .code y_Mo_sort b_Mo_sort 4 none :: ALLW
abbrev w_Mo_hasTwinsAnywhere : List Cond := .code y_Mo_hasTwinsAnywhere b_Mo_hasTwinsAnywhere 3 (some .boolean) :: ALLW
abbrev w_Mo_hasTwins : List Cond := .code y_Mo_hasTwins b_Mo_hasTwins 5 (some .boolean) :: ALLW
abbrev w_Mo_putFirst : List Cond := .code y_Mo_putFirst b_Mo_putFirst 3 none :: ALLW
abbrev w_Mo_putBehind : List Cond := .code y_Mo_putBehind b_Mo_putBehind 6 none :: ALLW
abbrev w_Mo_hasName : List Cond := .code y_Mo_hasName b_Mo_hasName 5 (some .boolean) :: ALLW
abbrev w_Mo_nameAt : List Cond := .code y_Mo_nameAt b_Mo_nameAt 8 (some .int) :: ALLW
abbrev w_Re_init : List Cond := .code y_Re_init b_Re_init 1 none :: ALLW
abbrev w_Re_startWith : List Cond := .code y_Re_startWith b_Re_startWith 2 none :: ALLW
abbrev w_Re_take : List Cond := .code y_Re_take b_Re_take 2 (some .boolean) :: ALLW
abbrev w_Re_mayEnd : List Cond := .code y_Re_mayEnd b_Re_mayEnd 1 (some .boolean) :: ALLW
abbrev w_Re_mayTake : List Cond := .code y_Re_mayTake b_Re_mayTake 2 (some .boolean) :: ALLW
abbrev w_Re_offer : List Cond := .code y_Re_offer b_Re_offer 2 (some .int) :: ALLW
abbrev w_Re_takeBack : List Cond := .code y_Re_takeBack b_Re_takeBack 2 (some .int) :: ALLW
abbrev w_Se_init : List Cond := .code y_Se_init b_Se_init 2 none :: ALLW
abbrev w_Se_hasSet : List Cond := .code y_Se_hasSet b_Se_hasSet 2 (some .boolean) :: ALLW
abbrev w_Se_hasPlace : List Cond := .code y_Se_hasPlace b_Se_hasPlace 3 (some .boolean) :: ALLW
abbrev w_Se_holds : List Cond := .code y_Se_holds b_Se_holds 3 (some .boolean) :: ALLW
abbrev w_Se_add : List Cond := .code y_Se_add b_Se_add 3 none :: ALLW
abbrev w_Se_addAll : List Cond := .code y_Se_addAll b_Se_addAll 5 none :: ALLW
abbrev w_Se_removeAll : List Cond := .code y_Se_removeAll b_Se_removeAll 3 none :: ALLW
theorem inA_Dr : ∀ w ∈ ws_Dr, w ∈ ALLW := by decide +kernel
theorem inA_Mo : ∀ w ∈ ws_Mo, w ∈ ALLW := by decide +kernel
theorem inA_Re : ∀ w ∈ ws_Re, w ∈ ALLW := by decide +kernel
theorem inA_Se : ∀ w ∈ ws_Se, w ∈ ALLW := by decide +kernel
theorem inA_To : ∀ w ∈ ws_To, w ∈ ALLW := by decide +kernel
theorem inA_Rf : ∀ w ∈ ws_Rf, w ∈ ALLW := by decide +kernel
end
section
def zI (z : Int) : Int32 := Int32.ofInt z
def z0N : Nat → Nat := fun _ => 0
def z0B : Nat → Bool := fun _ => false
def z0J : Nat → Int64 := fun _ => 0
def z0Q : Nat → Option Nat := fun _ => none
def zB (b : Bool) : Int32 := if b then 1 else 0
theorem zI_toInt {z : Int} (h : -2147483648 ≤ z ∧ z < 2147483648) : (zI z).toInt = z := Int32.toInt_ofInt_of_le (by omega) (by omega)
theorem zI_eq {a b : Int} (h : (-2147483648 ≤ a ∧ a < 2147483648) ∧ (-2147483648 ≤ b ∧ b < 2147483648)) : zI a = zI b ↔ a = b := by
  constructor
  · intro q
    have q2 := congrArg Int32.toInt q
    rw [zI_toInt h.1, zI_toInt h.2] at q2
    exact q2
  · intro q; rw [q]
theorem zI_lt {a b : Int} (h : (-2147483648 ≤ a ∧ a < 2147483648) ∧ (-2147483648 ≤ b ∧ b < 2147483648)) : zI a < zI b ↔ a < b := by
  rw [Int32.lt_iff_toInt_lt, zI_toInt h.1, zI_toInt h.2]
theorem zI_le {a b : Int} (h : (-2147483648 ≤ a ∧ a < 2147483648) ∧ (-2147483648 ≤ b ∧ b < 2147483648)) : zI a ≤ zI b ↔ a ≤ b := by
  rw [Int32.le_iff_toInt_le, zI_toInt h.1, zI_toInt h.2]
theorem zI_add (a b : Int) : zI a + zI b = zI (a + b) := (Int32.ofInt_add a b).symm
theorem zI_sub (a b : Int) : zI a - zI b = zI (a - b) := (Int32.ofInt_sub a b).symm
theorem zI_mul (a b : Int) : zI a * zI b = zI (a * b) := (Int32.ofInt_mul a b).symm
theorem zI_nat (n : Nat) : zI (n : Int) = nI n := Int32.ofInt_eq_ofNat
theorem zI_ofNat (n : Nat) : Int32.ofNat n = zI (n : Int) := (zI_nat n).symm
theorem zI_cl {z : Int} {n : Nat} (hz : z = (n : Int)) (h : n < 2147483648) : (zI z).toNatClampNeg = n := by
  rw [hz, zI_nat]; exact nI_clamp (by omega)
theorem zI_in {z : Int} {i n : Nat} (hz : z = (i : Int)) (h : i < n) (hn : n < 2147483648) : vp_in (zI z) n := by
  rw [hz, zI_nat]; exact vp_in_nI h (by omega)
theorem z_incN (x k : Nat) : zI ((x : Nat) : Int) + Int32.ofInt ((k : Nat) : Int) = zI ((x + k : Nat) : Int) := by
  rw [Int.natCast_add]; exact zI_add _ _
theorem z_max0 (k : Nat) (h : k < 2147483648) : (if zI ((k : Nat) : Int) < zI 0 then zI 0 else zI ((k : Nat) : Int)) = zI ((k : Nat) : Int) := if_neg (by rw [zI_lt ⟨by omega, by omega⟩]; omega)
theorem zI_self (x : Int32) : zI x.toInt = x := Int32.ofInt_toInt x
theorem zI_rng (x : Int32) : -2147483648 ≤ x.toInt ∧ x.toInt < 2147483648 := ⟨by have := x.le_toInt; omega, by have := x.toInt_lt; omega⟩
theorem zI_0 : (0 : Int32) = zI 0 := by decide
theorem zB_T : zB true = 1 := rfl
theorem zB_F : zB false = 0 := rfl
theorem zB_0 (b : Bool) : zB b = 0 ↔ b = false := by cases b <;> decide
theorem z_narB (b : Bool) : narrow .boolean (.int (zB b)) = .int (zB b) := by cases b <;> decide
theorem z_fitB (b : Bool) : fits .boolean (.int (zB b)) = true := by cases b <;> decide
theorem z_vnarB (b : Bool) : vp_nar .boolean (zB b) = zB b := by cases b <;> decide
theorem z_updI (g : Nat → Int) (i : Nat) (x : Int) : upd (fun j => zI (g j)) i (zI x) = fun j => zI (va_up g i x j) := by
  funext j; unfold upd va_up; by_cases h : j = i <;> simp [h]
theorem z_updB (g : Nat → Bool) (i : Nat) (x : Bool) : upd (fun j => zB (g j)) i (zB x) = fun j => zB (va_up g i x j) := by
  funext j; unfold upd va_up; by_cases h : j = i <;> simp [h]

section ZR
variable {p : Program} {l : Launch} {e : Env} {R : Room} {s : State} {m : MethodId} {args : Array Value} {below : List Frame} {meth : Method} {c : Code} {H : Heap} {locs : List Loc} {cells slots : Nat} {Q : State → Prop}
variable {cc : ByteArray} {pc : Nat} {ls : Array Slot} {rest : List Value}
theorem z_iadd (hx : p.tables.exec = Jvm.exec) (hb : c.code = cc) {a b : Int} (hdg : decode cc pc = .ok (.iadd, 1)) (k : W p l e R s m args below meth c H locs cells slots Q (F0 m (pc + 1) ls (.int (zI (a + b)) :: rest))) : W p l e R s m args below meth c H locs cells slots Q (F0 m pc ls (.int (zI b) :: .int (zI a) :: rest)) := lv_iadd hx hb hdg (by rw [zI_add]; exact k)
theorem z_isub (hx : p.tables.exec = Jvm.exec) (hb : c.code = cc) {a b : Int} (hdg : decode cc pc = .ok (.isub, 1)) (k : W p l e R s m args below meth c H locs cells slots Q (F0 m (pc + 1) ls (.int (zI (a - b)) :: rest))) : W p l e R s m args below meth c H locs cells slots Q (F0 m pc ls (.int (zI b) :: .int (zI a) :: rest)) := lv_isub hx hb hdg (by rw [zI_sub]; exact k)
theorem z_imul (hx : p.tables.exec = Jvm.exec) (hb : c.code = cc) {a b : Int} (hdg : decode cc pc = .ok (.imul, 1)) (k : W p l e R s m args below meth c H locs cells slots Q (F0 m (pc + 1) ls (.int (zI (a * b)) :: rest))) : W p l e R s m args below meth c H locs cells slots Q (F0 m pc ls (.int (zI b) :: .int (zI a) :: rest)) := lv_imul hx hb hdg (by rw [zI_mul]; exact k)
theorem z_icmp_eq (hx : p.tables.exec = Jvm.exec) (hb : c.code = cc) {a b : Int} {off : Int} {tgt : Nat} (hr : (-2147483648 ≤ a ∧ a < 2147483648) ∧ (-2147483648 ≤ b ∧ b < 2147483648)) (hdg : decode cc pc = .ok (.if_icmp .eq off, 3)) (ht : (pc : Int) + off = (tgt : Int)) (kt : a = b → W p l e R s m args below meth c H locs cells slots Q (F0 m tgt ls rest)) (kf : ¬ a = b → W p l e R s m args below meth c H locs cells slots Q (F0 m (pc + 3) ls rest)) : W p l e R s m args below meth c H locs cells slots Q (F0 m pc ls (.int (zI b) :: .int (zI a) :: rest)) := lv_icmp_eq hx hb hdg ht (fun h => kt ((zI_eq hr).mp h)) (fun h => kf (fun q => h ((zI_eq hr).mpr q)))
theorem z_icmp_ne (hx : p.tables.exec = Jvm.exec) (hb : c.code = cc) {a b : Int} {off : Int} {tgt : Nat} (hr : (-2147483648 ≤ a ∧ a < 2147483648) ∧ (-2147483648 ≤ b ∧ b < 2147483648)) (hdg : decode cc pc = .ok (.if_icmp .ne off, 3)) (ht : (pc : Int) + off = (tgt : Int)) (kt : ¬ a = b → W p l e R s m args below meth c H locs cells slots Q (F0 m tgt ls rest)) (kf : a = b → W p l e R s m args below meth c H locs cells slots Q (F0 m (pc + 3) ls rest)) : W p l e R s m args below meth c H locs cells slots Q (F0 m pc ls (.int (zI b) :: .int (zI a) :: rest)) := lv_icmp_ne hx hb hdg ht (fun h => kt (fun q => h ((zI_eq hr).mpr q))) (fun h => kf ((zI_eq hr).mp h))
theorem z_icmp_lt (hx : p.tables.exec = Jvm.exec) (hb : c.code = cc) {a b : Int} {off : Int} {tgt : Nat} (hr : (-2147483648 ≤ a ∧ a < 2147483648) ∧ (-2147483648 ≤ b ∧ b < 2147483648)) (hdg : decode cc pc = .ok (.if_icmp .lt off, 3)) (ht : (pc : Int) + off = (tgt : Int)) (kt : a < b → W p l e R s m args below meth c H locs cells slots Q (F0 m tgt ls rest)) (kf : ¬ a < b → W p l e R s m args below meth c H locs cells slots Q (F0 m (pc + 3) ls rest)) : W p l e R s m args below meth c H locs cells slots Q (F0 m pc ls (.int (zI b) :: .int (zI a) :: rest)) := lv_icmp_lt hx hb hdg ht (fun h => kt ((zI_lt hr).mp h)) (fun h => kf (fun q => h ((zI_lt hr).mpr q)))
theorem z_icmp_ge (hx : p.tables.exec = Jvm.exec) (hb : c.code = cc) {a b : Int} {off : Int} {tgt : Nat} (hr : (-2147483648 ≤ a ∧ a < 2147483648) ∧ (-2147483648 ≤ b ∧ b < 2147483648)) (hdg : decode cc pc = .ok (.if_icmp .ge off, 3)) (ht : (pc : Int) + off = (tgt : Int)) (kt : b ≤ a → W p l e R s m args below meth c H locs cells slots Q (F0 m tgt ls rest)) (kf : ¬ b ≤ a → W p l e R s m args below meth c H locs cells slots Q (F0 m (pc + 3) ls rest)) : W p l e R s m args below meth c H locs cells slots Q (F0 m pc ls (.int (zI b) :: .int (zI a) :: rest)) := lv_icmp_ge hx hb hdg ht (fun h => kt ((zI_le hr.symm).mp h)) (fun h => kf (fun q => h ((zI_le hr.symm).mpr q)))
theorem z_icmp_gt (hx : p.tables.exec = Jvm.exec) (hb : c.code = cc) {a b : Int} {off : Int} {tgt : Nat} (hr : (-2147483648 ≤ a ∧ a < 2147483648) ∧ (-2147483648 ≤ b ∧ b < 2147483648)) (hdg : decode cc pc = .ok (.if_icmp .gt off, 3)) (ht : (pc : Int) + off = (tgt : Int)) (kt : b < a → W p l e R s m args below meth c H locs cells slots Q (F0 m tgt ls rest)) (kf : ¬ b < a → W p l e R s m args below meth c H locs cells slots Q (F0 m (pc + 3) ls rest)) : W p l e R s m args below meth c H locs cells slots Q (F0 m pc ls (.int (zI b) :: .int (zI a) :: rest)) := lv_icmp_gt hx hb hdg ht (fun h => kt ((zI_lt hr.symm).mp h)) (fun h => kf (fun q => h ((zI_lt hr.symm).mpr q)))
theorem z_icmp_le (hx : p.tables.exec = Jvm.exec) (hb : c.code = cc) {a b : Int} {off : Int} {tgt : Nat} (hr : (-2147483648 ≤ a ∧ a < 2147483648) ∧ (-2147483648 ≤ b ∧ b < 2147483648)) (hdg : decode cc pc = .ok (.if_icmp .le off, 3)) (ht : (pc : Int) + off = (tgt : Int)) (kt : a ≤ b → W p l e R s m args below meth c H locs cells slots Q (F0 m tgt ls rest)) (kf : ¬ a ≤ b → W p l e R s m args below meth c H locs cells slots Q (F0 m (pc + 3) ls rest)) : W p l e R s m args below meth c H locs cells slots Q (F0 m pc ls (.int (zI b) :: .int (zI a) :: rest)) := lv_icmp_le hx hb hdg ht (fun h => kt ((zI_le hr).mp h)) (fun h => kf (fun q => h ((zI_le hr).mpr q)))
theorem z_if_eq (hx : p.tables.exec = Jvm.exec) (hb : c.code = cc) {a : Int} {off : Int} {tgt : Nat} (hr : -2147483648 ≤ a ∧ a < 2147483648) (hdg : decode cc pc = .ok (.ifCond .eq off, 3)) (ht : (pc : Int) + off = (tgt : Int)) (kt : a = 0 → W p l e R s m args below meth c H locs cells slots Q (F0 m tgt ls rest)) (kf : ¬ a = 0 → W p l e R s m args below meth c H locs cells slots Q (F0 m (pc + 3) ls rest)) : W p l e R s m args below meth c H locs cells slots Q (F0 m pc ls (.int (zI a) :: rest)) := lv_if_eq hx hb hdg ht (fun h => kt ((zI_eq (And.intro hr (by omega))).mp (by rw [zI_0] at h; exact h))) (fun h => kf (fun q => h (by rw [zI_0]; exact (zI_eq (And.intro hr (by omega))).mpr q)))
theorem z_if_ne (hx : p.tables.exec = Jvm.exec) (hb : c.code = cc) {a : Int} {off : Int} {tgt : Nat} (hr : -2147483648 ≤ a ∧ a < 2147483648) (hdg : decode cc pc = .ok (.ifCond .ne off, 3)) (ht : (pc : Int) + off = (tgt : Int)) (kt : ¬ a = 0 → W p l e R s m args below meth c H locs cells slots Q (F0 m tgt ls rest)) (kf : a = 0 → W p l e R s m args below meth c H locs cells slots Q (F0 m (pc + 3) ls rest)) : W p l e R s m args below meth c H locs cells slots Q (F0 m pc ls (.int (zI a) :: rest)) := lv_if_ne hx hb hdg ht (fun h => kt (fun q => h (by rw [zI_0]; exact (zI_eq (And.intro hr (by omega))).mpr q))) (fun h => kf ((zI_eq (And.intro hr (by omega))).mp (by rw [zI_0] at h; exact h)))
theorem z_if_lt (hx : p.tables.exec = Jvm.exec) (hb : c.code = cc) {a : Int} {off : Int} {tgt : Nat} (hr : -2147483648 ≤ a ∧ a < 2147483648) (hdg : decode cc pc = .ok (.ifCond .lt off, 3)) (ht : (pc : Int) + off = (tgt : Int)) (kt : a < 0 → W p l e R s m args below meth c H locs cells slots Q (F0 m tgt ls rest)) (kf : ¬ a < 0 → W p l e R s m args below meth c H locs cells slots Q (F0 m (pc + 3) ls rest)) : W p l e R s m args below meth c H locs cells slots Q (F0 m pc ls (.int (zI a) :: rest)) := lv_if_lt hx hb hdg ht (fun h => kt ((zI_lt (And.intro hr (by omega))).mp (by rw [zI_0] at h; exact h))) (fun h => kf (fun q => h (by rw [zI_0]; exact (zI_lt (And.intro hr (by omega))).mpr q)))
theorem z_if_ge (hx : p.tables.exec = Jvm.exec) (hb : c.code = cc) {a : Int} {off : Int} {tgt : Nat} (hr : -2147483648 ≤ a ∧ a < 2147483648) (hdg : decode cc pc = .ok (.ifCond .ge off, 3)) (ht : (pc : Int) + off = (tgt : Int)) (kt : 0 ≤ a → W p l e R s m args below meth c H locs cells slots Q (F0 m tgt ls rest)) (kf : ¬ 0 ≤ a → W p l e R s m args below meth c H locs cells slots Q (F0 m (pc + 3) ls rest)) : W p l e R s m args below meth c H locs cells slots Q (F0 m pc ls (.int (zI a) :: rest)) := lv_if_ge hx hb hdg ht (fun h => kt ((zI_le (And.intro (by omega) hr)).mp (by rw [zI_0] at h; exact h))) (fun h => kf (fun q => h (by rw [zI_0]; exact (zI_le (And.intro (by omega) hr)).mpr q)))
theorem z_if_gt (hx : p.tables.exec = Jvm.exec) (hb : c.code = cc) {a : Int} {off : Int} {tgt : Nat} (hr : -2147483648 ≤ a ∧ a < 2147483648) (hdg : decode cc pc = .ok (.ifCond .gt off, 3)) (ht : (pc : Int) + off = (tgt : Int)) (kt : 0 < a → W p l e R s m args below meth c H locs cells slots Q (F0 m tgt ls rest)) (kf : ¬ 0 < a → W p l e R s m args below meth c H locs cells slots Q (F0 m (pc + 3) ls rest)) : W p l e R s m args below meth c H locs cells slots Q (F0 m pc ls (.int (zI a) :: rest)) := lv_if_gt hx hb hdg ht (fun h => kt ((zI_lt (And.intro (by omega) hr)).mp (by rw [zI_0] at h; exact h))) (fun h => kf (fun q => h (by rw [zI_0]; exact (zI_lt (And.intro (by omega) hr)).mpr q)))
theorem z_if_le (hx : p.tables.exec = Jvm.exec) (hb : c.code = cc) {a : Int} {off : Int} {tgt : Nat} (hr : -2147483648 ≤ a ∧ a < 2147483648) (hdg : decode cc pc = .ok (.ifCond .le off, 3)) (ht : (pc : Int) + off = (tgt : Int)) (kt : a ≤ 0 → W p l e R s m args below meth c H locs cells slots Q (F0 m tgt ls rest)) (kf : ¬ a ≤ 0 → W p l e R s m args below meth c H locs cells slots Q (F0 m (pc + 3) ls rest)) : W p l e R s m args below meth c H locs cells slots Q (F0 m pc ls (.int (zI a) :: rest)) := lv_if_le hx hb hdg ht (fun h => kt ((zI_le (And.intro hr (by omega))).mp (by rw [zI_0] at h; exact h))) (fun h => kf (fun q => h (by rw [zI_0]; exact (zI_le (And.intro hr (by omega))).mpr q)))
theorem z_ifeq_B (hx : p.tables.exec = Jvm.exec) (hb : c.code = cc) {b : Bool} {off : Int} {tgt : Nat} (hdg : decode cc pc = .ok (.ifCond .eq off, 3)) (ht : (pc : Int) + off = (tgt : Int)) (kt : b = false → W p l e R s m args below meth c H locs cells slots Q (F0 m tgt ls rest)) (kf : b = true → W p l e R s m args below meth c H locs cells slots Q (F0 m (pc + 3) ls rest)) : W p l e R s m args below meth c H locs cells slots Q (F0 m pc ls (.int (zB b) :: rest)) := lv_if_eq hx hb hdg ht (fun h => kt ((zB_0 b).mp h)) (fun h => kf (by cases b with | true => rfl | false => exact absurd rfl h))
theorem z_ifne_B (hx : p.tables.exec = Jvm.exec) (hb : c.code = cc) {b : Bool} {off : Int} {tgt : Nat} (hdg : decode cc pc = .ok (.ifCond .ne off, 3)) (ht : (pc : Int) + off = (tgt : Int)) (kt : b = true → W p l e R s m args below meth c H locs cells slots Q (F0 m tgt ls rest)) (kf : b = false → W p l e R s m args below meth c H locs cells slots Q (F0 m (pc + 3) ls rest)) : W p l e R s m args below meth c H locs cells slots Q (F0 m pc ls (.int (zB b) :: rest)) := lv_if_ne hx hb hdg ht (fun h => kt (by cases b with | true => rfl | false => exact absurd rfl h)) (fun h => kf ((zB_0 b).mp h))
theorem z_topT {v : Int32} (h : v = zB true) (k : W p l e R s m args below meth c H locs cells slots Q (F0 m pc ls (.int (zB true) :: rest))) : W p l e R s m args below meth c H locs cells slots Q (F0 m pc ls (.int v :: rest)) := h ▸ k
theorem z_top {v v2 : Value} (h : v = v2) (k : W p l e R s m args below meth c H locs cells slots Q (F0 m pc ls (v2 :: rest))) : W p l e R s m args below meth c H locs cells slots Q (F0 m pc ls (v :: rest)) := h ▸ k
variable {D : va_G} {cl : List vw_C} {A : Nat → Prop} {a : Nat} {tys : List (ClassId × FieldType)} {ws : va_W} {H0 : Heap}
theorem z_iald (hx : p.tables.exec = Jvm.exec) (hb : c.code = cc) (hK : va_K D cl tys s) (hP : va_P D cl ws H) (q0 t0 : Nat) {cA : ClassId} {n : Nat} {g : Nat → Int} (ha : ws[q0]? = some (a, .inl (cA, n, .inl (fun j => zI (g j))))) (ht : tys[t0]? = some (cA, .int)) {z : Int} (i : Nat) (hz : z = (i : Int)) (hin : i < n) (hn : n < 2147483648) (hdg : decode cc pc = .ok (.iaload, 1)) (kk : W p l e R s m args below meth c H locs cells slots Q (F0 m (pc + 1) ls (.int (zI (g i)) :: rest))) : W p l e R s m args below meth c H locs cells slots Q (F0 m pc ls (.int (zI z) :: .ref a :: rest)) := va_iald hx hb hK hP q0 t0 ha ht (zI_in hz hin hn) hdg (by rw [zI_cl hz (by omega)]; exact kk)
theorem z_zald (hx : p.tables.exec = Jvm.exec) (hb : c.code = cc) (hK : va_K D cl tys s) (hP : va_P D cl ws H) (q0 t0 : Nat) {cA : ClassId} {n : Nat} {g : Nat → Bool} (ha : ws[q0]? = some (a, .inl (cA, n, .inl (fun j => zB (g j))))) (ht : tys[t0]? = some (cA, .boolean)) {z : Int} (i : Nat) (hz : z = (i : Int)) (hin : i < n) (hn : n < 2147483648) (hdg : decode cc pc = .ok (.baload, 1)) (kk : W p l e R s m args below meth c H locs cells slots Q (F0 m (pc + 1) ls (.int (zB (g i)) :: rest))) : W p l e R s m args below meth c H locs cells slots Q (F0 m pc ls (.int (zI z) :: .ref a :: rest)) := va_zald hx hb hK hP q0 t0 ha ht (zI_in hz hin hn) hdg (by rw [zI_cl hz (by omega)]; exact kk)
theorem z_lald (hx : p.tables.exec = Jvm.exec) (hb : c.code = cc) (hK : va_K D cl tys s) (hP : va_P D cl ws H) (q0 t0 : Nat) {cA : ClassId} {n : Nat} {g : Nat → Int64} (ha : ws[q0]? = some (a, .inl (cA, n, .inr (.inl g)))) (ht : tys[t0]? = some (cA, .long)) {z : Int} (i : Nat) (hz : z = (i : Int)) (hin : i < n) (hn : n < 2147483648) (hdg : decode cc pc = .ok (.laload, 1)) (kk : W p l e R s m args below meth c H locs cells slots Q (F0 m (pc + 1) ls (.long (g i) :: rest))) : W p l e R s m args below meth c H locs cells slots Q (F0 m pc ls (.int (zI z) :: .ref a :: rest)) := va_lald hx hb hK hP q0 t0 ha ht (zI_in hz hin hn) hdg (by rw [zI_cl hz (by omega)]; exact kk)
theorem z_aald (hx : p.tables.exec = Jvm.exec) (hb : c.code = cc) (hK : va_K D cl tys s) (hP : va_P D cl ws H) (q0 t0 : Nat) {cA : ClassId} {C : String} {n : Nat} {g : Nat → Option Nat} (ha : ws[q0]? = some (a, .inl (cA, n, .inr (.inr (.inr (.inr g)))))) (ht : tys[t0]? = some (cA, .object C)) {z : Int} (i : Nat) (hz : z = (i : Int)) (hin : i < n) (hn : n < 2147483648) (hdg : decode cc pc = .ok (.aaload, 1)) (kk : W p l e R s m args below meth c H locs cells slots Q (F0 m (pc + 1) ls (va_rf (g i) :: rest))) : W p l e R s m args below meth c H locs cells slots Q (F0 m pc ls (.int (zI z) :: .ref a :: rest)) := va_aldq hx hb hK hP q0 t0 ha ht (zI_in hz hin hn) hdg (by rw [zI_cl hz (by omega)]; exact kk)
theorem z_updU (g : Nat → Nat) (i x : Nat) : upd (fun j => zI ((g j : Nat) : Int)) i (zI ((x : Nat) : Int)) = fun j => zI ((va_up g i x j : Nat) : Int) := by
  funext j; unfold upd va_up; by_cases h : j = i <;> simp [h]
theorem z_uald (hx : p.tables.exec = Jvm.exec) (hb : c.code = cc) (hK : va_K D cl tys s) (hP : va_P D cl ws H) (q0 t0 : Nat) {cA : ClassId} {n : Nat} {g : Nat → Nat} (ha : ws[q0]? = some (a, .inl (cA, n, .inl (fun j => zI ((g j : Nat) : Int))))) (ht : tys[t0]? = some (cA, .int)) {z : Int} (i : Nat) (hz : z = (i : Int)) (hin : i < n) (hn : n < 2147483648) (hdg : decode cc pc = .ok (.iaload, 1)) (kk : W p l e R s m args below meth c H locs cells slots Q (F0 m (pc + 1) ls (.int (zI ((g i : Nat) : Int)) :: rest))) : W p l e R s m args below meth c H locs cells slots Q (F0 m pc ls (.int (zI z) :: .ref a :: rest)) := va_iald hx hb hK hP q0 t0 ha ht (zI_in hz hin hn) hdg (by rw [zI_cl hz (by omega)]; exact kk)
theorem z_uast (hx : p.tables.exec = Jvm.exec) (hb : c.code = cc) (hK : va_K D cl tys s) (hP : va_P D cl ws H) (hD : va_D A ws) (hS : va_S A H0 H locs) (q0 t0 : Nat) {cA : ClassId} {n : Nat} {g : Nat → Nat} (ha : ws[q0]? = some (a, .inl (cA, n, .inl (fun j => zI ((g j : Nat) : Int))))) (ht : tys[t0]? = some (cA, .int)) {z : Int} {x : Nat} (i : Nat) (hz : z = (i : Int)) (hin : i < n) (hn : n < 2147483648) (hdg : decode cc pc = .ok (.iastore, 1)) (kk : ∀ (H1 : Heap) (locs1 : List Loc), va_P D cl (ws.set q0 (a, .inl (cA, n, .inl (fun j => zI ((va_up g i x j : Nat) : Int))))) H1 → va_D A (ws.set q0 (a, .inl (cA, n, .inl (fun j => zI ((va_up g i x j : Nat) : Int))))) → va_S A H0 H1 locs1 → W p l e R s m args below meth c H1 locs1 cells slots Q (F0 m (pc + 1) ls rest)) : W p l e R s m args below meth c H locs cells slots Q (F0 m pc ls (.int (zI ((x : Nat) : Int)) :: .int (zI z) :: .ref a :: rest)) := by
  refine va_iast hx hb hK hP hD hS q0 t0 ha ht (zI_in hz hin hn) hdg (fun H1 locs1 h1 h2 h3 => kk H1 locs1 ?_ ?_ h3)
  · rw [zI_cl hz (by omega), z_updU] at h1; exact h1
  · rw [zI_cl hz (by omega), z_updU] at h2; exact h2
theorem z_iast (hx : p.tables.exec = Jvm.exec) (hb : c.code = cc) (hK : va_K D cl tys s) (hP : va_P D cl ws H) (hD : va_D A ws) (hS : va_S A H0 H locs) (q0 t0 : Nat) {cA : ClassId} {n : Nat} {g : Nat → Int} (ha : ws[q0]? = some (a, .inl (cA, n, .inl (fun j => zI (g j))))) (ht : tys[t0]? = some (cA, .int)) {z : Int} {x : Int} (i : Nat) (hz : z = (i : Int)) (hin : i < n) (hn : n < 2147483648) (hdg : decode cc pc = .ok (.iastore, 1)) (kk : ∀ (H1 : Heap) (locs1 : List Loc), va_P D cl (ws.set q0 (a, .inl (cA, n, .inl (fun j => zI (va_up g i x j))))) H1 → va_D A (ws.set q0 (a, .inl (cA, n, .inl (fun j => zI (va_up g i x j))))) → va_S A H0 H1 locs1 → W p l e R s m args below meth c H1 locs1 cells slots Q (F0 m (pc + 1) ls rest)) : W p l e R s m args below meth c H locs cells slots Q (F0 m pc ls (.int (zI x) :: .int (zI z) :: .ref a :: rest)) := by
  refine va_iast hx hb hK hP hD hS q0 t0 ha ht (zI_in hz hin hn) hdg (fun H1 locs1 h1 h2 h3 => kk H1 locs1 ?_ ?_ h3)
  · rw [zI_cl hz (by omega), z_updI] at h1; exact h1
  · rw [zI_cl hz (by omega), z_updI] at h2; exact h2
theorem z_zast (hx : p.tables.exec = Jvm.exec) (hb : c.code = cc) (hK : va_K D cl tys s) (hP : va_P D cl ws H) (hD : va_D A ws) (hS : va_S A H0 H locs) (q0 t0 : Nat) {cA : ClassId} {n : Nat} {g : Nat → Bool} (ha : ws[q0]? = some (a, .inl (cA, n, .inl (fun j => zB (g j))))) (ht : tys[t0]? = some (cA, .boolean)) {z : Int} {x : Bool} (i : Nat) (hz : z = (i : Int)) (hin : i < n) (hn : n < 2147483648) (hdg : decode cc pc = .ok (.bastore, 1)) (kk : ∀ (H1 : Heap) (locs1 : List Loc), va_P D cl (ws.set q0 (a, .inl (cA, n, .inl (fun j => zB (va_up g i x j))))) H1 → va_D A (ws.set q0 (a, .inl (cA, n, .inl (fun j => zB (va_up g i x j))))) → va_S A H0 H1 locs1 → W p l e R s m args below meth c H1 locs1 cells slots Q (F0 m (pc + 1) ls rest)) : W p l e R s m args below meth c H locs cells slots Q (F0 m pc ls (.int (zB x) :: .int (zI z) :: .ref a :: rest)) := by
  refine va_zast hx hb hK hP hD hS q0 t0 ha ht (zI_in hz hin hn) hdg (fun H1 locs1 h1 h2 h3 => kk H1 locs1 ?_ ?_ h3)
  · rw [zI_cl hz (by omega), z_vnarB, z_updB] at h1; exact h1
  · rw [zI_cl hz (by omega), z_vnarB, z_updB] at h2; exact h2
theorem z_last (hx : p.tables.exec = Jvm.exec) (hb : c.code = cc) (hK : va_K D cl tys s) (hP : va_P D cl ws H) (hD : va_D A ws) (hS : va_S A H0 H locs) (q0 t0 : Nat) {cA : ClassId} {n : Nat} {g : Nat → Int64} (ha : ws[q0]? = some (a, .inl (cA, n, .inr (.inl g)))) (ht : tys[t0]? = some (cA, .long)) {z : Int} {x : Int64} (i : Nat) (hz : z = (i : Int)) (hin : i < n) (hn : n < 2147483648) (hdg : decode cc pc = .ok (.lastore, 1)) (kk : ∀ (H1 : Heap) (locs1 : List Loc), va_P D cl (ws.set q0 (a, .inl (cA, n, .inr (.inl (vp_updL g i x))))) H1 → va_D A (ws.set q0 (a, .inl (cA, n, .inr (.inl (vp_updL g i x))))) → va_S A H0 H1 locs1 → W p l e R s m args below meth c H1 locs1 cells slots Q (F0 m (pc + 1) ls rest)) : W p l e R s m args below meth c H locs cells slots Q (F0 m pc ls (.long x :: .int (zI z) :: .ref a :: rest)) := by
  refine va_last hx hb hK hP hD hS q0 t0 ha ht (zI_in hz hin hn) hdg (fun H1 locs1 h1 h2 h3 => kk H1 locs1 ?_ ?_ h3)
  · rw [zI_cl hz (by omega)] at h1; exact h1
  · rw [zI_cl hz (by omega)] at h2; exact h2
theorem z_alen (hx : p.tables.exec = Jvm.exec) (hb : c.code = cc) (hK : va_K D cl tys s) (hP : va_P D cl ws H) (q0 t0 : Nat) {cA : ClassId} {x : vp_A} (ha : ws[q0]? = some (a, .inl (cA, x))) {ty : FieldType} (ht : tys[t0]? = some (cA, ty)) (hdg : decode cc pc = .ok (.arraylength, 1)) (kk : W p l e R s m args below meth c H locs cells slots Q (F0 m (pc + 1) ls (.int (zI ((x.1 : Nat) : Int)) :: rest))) : W p l e R s m args below meth c H locs cells slots Q (F0 m pc ls (.ref a :: rest)) := va_alen hx hb hK hP q0 t0 ha ht (zI_ofNat x.1) hdg kk
theorem z_aast (hx : p.tables.exec = Jvm.exec) (hb : c.code = cc) (hK : va_K D cl tys s) (hP : va_P D cl ws H) (hD : va_D A ws) (hS : va_S A H0 H locs) (q0 t0 qk ci : Nat) {cA : ClassId} {r : vw_C} {n v : Nat} {vs : List Value} {g : Nat → Option Nat} (ha : ws[q0]? = some (a, .inl (cA, n, .inr (.inr (.inr (.inr g)))))) (ht : tys[t0]? = some (cA, .object r.1)) (hv : ws[qk]? = some (v, .inr (ci, vs))) (hc : cl[ci]? = some r) {z : Int} (i : Nat) (hz : z = (i : Int)) (hin : i < n) (hn : n < 2147483648) (hdg : decode cc pc = .ok (.aastore, 1)) (kk : ∀ (H1 : Heap) (locs1 : List Loc), va_P D cl (ws.set q0 (a, .inl (cA, n, .inr (.inr (.inr (.inr (va_up g i (some v)))))))) H1 → va_D A (ws.set q0 (a, .inl (cA, n, .inr (.inr (.inr (.inr (va_up g i (some v)))))))) → va_S A H0 H1 locs1 → W p l e R s m args below meth c H1 locs1 cells slots Q (F0 m (pc + 1) ls rest)) : W p l e R s m args below meth c H locs cells slots Q (F0 m pc ls (.ref v :: .int (zI z) :: .ref a :: rest)) := by
  refine va_astq hx hb hK hP hD hS q0 t0 qk ci ha ht hv hc (zI_in hz hin hn) hdg (fun H1 locs1 h1 h2 h3 => kk H1 locs1 ?_ ?_ h3)
  · rw [zI_cl hz (by omega)] at h1; exact h1
  · rw [zI_cl hz (by omega)] at h2; exact h2
theorem z_newa (hx : p.tables.exec = Jvm.exec) (hb : c.code = cc) {atype : ArrayType} (harr : (Cond.arrayClass (newarray.typeOf atype)).before args s = true) {ty : FieldType} (hty : newarray.typeOf atype = ty) (hf : ∀ x, va_RA s x ty → s.vm.findClass ("[" ++ ty.toString) = some x) (hK : va_K D cl tys s) (hP : va_P D cl ws H) (hD : va_D A ws) (hS : va_S A H0 H locs) (hA : ∀ q, H0.size ≤ q → A q) (t0 : Nat) {cT : ClassId} (ht : tys[t0]? = some (cT, ty)) {z : Int} (N' : Nat) {a0 : vp_A} (ha : ∀ cA : ClassId, vp_cell cA a0 = arrV cA N' (fun _ => defaultValue ty)) (hz : z = (N' : Int)) (hN : N' < 2147483648) (hbytes : N' * componentBytes ty ≤ 536870912) (hcells : cells + 1 ≤ R.cells) (hslots : slots + N' ≤ R.slots) (hdg : decode cc pc = .ok (.newarray atype, 2)) (kk : ∀ (q : Nat) (H1 : Heap), va_P D cl (ws ++ [(q, .inl (cT, a0))]) H1 → va_D A (ws ++ [(q, .inl (cT, a0))]) → va_S A H0 H1 locs → W p l e R s m args below meth c H1 locs (cells + 1) (slots + N') Q (F0 m (pc + 2) ls (.ref q :: rest))) : W p l e R s m args below meth c H locs cells slots Q (F0 m pc ls (.int (zI z) :: rest)) := by
  refine va_newa hx hb harr hty hK hP hD hS hA ha ?_ (zI_cl hz hN) hbytes hcells hslots hdg (fun q cA H1 hK1 hP1 hD1 hS1 => ?_)
  · rw [hz, zI_nat]; exact nI_pos (by omega)
  · have h1 := hf cA (hK1.2 tys.length (cA, ty) (by simp)).2
    have h2 := hf cT (hK.2 t0 (cT, ty) ht).2
    have h3 : cA = cT := Option.some.inj (h1.symm.trans h2)
    subst h3
    exact kk q H1 hP1 hD1 hS1
theorem z_newq (hx : p.tables.exec = Jvm.exec) (hb : c.code = cc) {own C : String} {index : Nat} (hown : s.vm.findClass own = some m.cls) (hclink : (Cond.classLink own index C).before args s = true) (hover : va_AO C s) (hK : va_K D cl tys s) (hP : va_P D cl ws H) (hD : va_D A ws) (hS : va_S A H0 H locs) (hA : ∀ q, H0.size ≤ q → A q) (t0 : Nat) {cT : ClassId} (ht : tys[t0]? = some (cT, .object C)) {z : Int} (N' : Nat) (hz : z = (N' : Int)) (hN : N' < 2147483648) (hbytes : N' * 4 ≤ 536870912) (hcells : cells + 1 ≤ R.cells) (hslots : slots + N' ≤ R.slots) (hdg : decode cc pc = .ok (.anewarray index, 3)) (kk : ∀ (q : Nat) (H1 : Heap), va_P D cl (ws ++ [(q, .inl (cT, N', .inr (.inr (.inr (.inr z0Q)))))]) H1 → va_D A (ws ++ [(q, .inl (cT, N', .inr (.inr (.inr (.inr z0Q)))))]) → va_S A H0 H1 locs → W p l e R s m args below meth c H1 locs (cells + 1) (slots + N') Q (F0 m (pc + 3) ls (.ref q :: rest))) : W p l e R s m args below meth c H locs cells slots Q (F0 m pc ls (.int (zI z) :: rest)) := by
  refine va_newq hx hb hown hclink hover hK hP hD hS hA ?_ (zI_cl hz hN) hbytes hcells hslots hdg (fun q cA H1 hK1 hP1 hD1 hS1 => ?_)
  · rw [hz, zI_nat]; exact nI_pos (by omega)
  · obtain ⟨_, _, _, _, _, h1⟩ := (hK1.2 tys.length (cA, .object C) (by simp)).2
    obtain ⟨_, _, _, _, _, h2⟩ := (hK.2 t0 (cT, .object C) ht).2
    have h3 : cA = cT := Option.some.inj (h1.symm.trans h2)
    subst h3
    exact kk q H1 hP1 hD1 hS1
theorem z_defU (n : Nat) (cA : ClassId) : vp_cell cA (n, .inl (fun j => zI ((z0N j : Nat) : Int))) = arrV cA n (fun _ => defaultValue .int) := rfl
theorem z_defZ (n : Nat) (cA : ClassId) : vp_cell cA (n, .inl (fun j => zB (z0B j))) = arrV cA n (fun _ => defaultValue .boolean) := rfl
theorem z_defJ (n : Nat) (cA : ClassId) : vp_cell cA (n, .inr (.inl z0J)) = arrV cA n (fun _ => defaultValue .long) := rfl
end ZR
def zA (wc : va_W) : Nat → Prop := fun q => q ∈ wc.map Prod.fst
def zrepl : va_W → List Nat → va_W → va_W
  | ws, i :: is, q :: w => zrepl (ws.set i q) is w
  | ws, _, _ => ws
theorem z_fst_set {ws : va_W} {i : Nat} {q : Nat × va_E} (h : (ws[i]?).map Prod.fst = some q.1) : (ws.set i q).map Prod.fst = ws.map Prod.fst := by
  rw [List.map_set]
  apply List.ext_getElem?
  intro k
  by_cases hk : i = k
  · subst hk
    cases hi : ws[i]? with
    | none => rw [hi] at h; cases h
    | some x =>
      rw [hi] at h
      have hl := (List.getElem?_eq_some_iff.mp hi).1
      rw [List.getElem?_set_self (by rw [List.length_map]; exact hl), List.getElem?_map, hi]
      exact h.symm
  · rw [List.getElem?_set_ne hk]
theorem z_fst_repl : ∀ (is : List Nat) (ws w1 : va_W), is.map (fun i => (ws[i]?).map Prod.fst) = w1.map (fun q => some q.1) → (zrepl ws is w1).map Prod.fst = ws.map Prod.fst
  | [], ws, w1, _ => by cases w1 <;> rfl
  | i :: is, ws, [], h => by cases h
  | i :: is, ws, q :: w, h => by
    simp only [List.map_cons, List.cons.injEq] at h
    have h1 := z_fst_set h.1
    have hi : ∀ k : Nat, ((ws.set i q)[k]?).map Prod.fst = (ws[k]?).map Prod.fst := fun k => by
      have := congrArg (fun L : List Nat => L[k]?) h1
      simpa only [List.getElem?_map] using this
    rw [zrepl, z_fst_repl is (ws.set i q) w (by simp only [hi]; exact h.2), h1]
theorem z_at_repl : ∀ (is : List Nat) (ws w1 : va_W) (k : Nat) (q : Nat × va_E), (zrepl ws is w1)[k]? = some q → q ∈ w1 ∨ (ws[k]? = some q ∧ (is.length ≤ w1.length → k ∉ is))
  | [], ws, w1, k, q, h => by
    right
    refine ⟨?_, fun _ => List.not_mem_nil⟩
    cases w1 <;> exact h
  | i :: is, ws, [], k, q, h => by
    right
    exact ⟨h, fun hl => absurd hl (by simp)⟩
  | i :: is, ws, r :: w, k, q, h => by
    rcases z_at_repl is (ws.set i r) w k q h with h1 | ⟨h1, h2⟩
    · exact Or.inl (List.mem_cons_of_mem _ h1)
    · by_cases hk : i = k
      · subst hk
        have hl : i < ws.length := by
          have := (List.getElem?_eq_some_iff.mp h1).1
          rwa [List.length_set] at this
        rw [List.getElem?_set_self hl] at h1
        cases h1
        exact Or.inl List.mem_cons_self
      · rw [List.getElem?_set_ne hk] at h1
        refine Or.inr ⟨h1, fun hl hm => ?_⟩
        rcases List.mem_cons.mp hm with e | e
        · exact hk e.symm
        · exact h2 (by simpa using hl) e
theorem z_D_congr {A : Nat → Prop} {ws ws' : va_W} (h : ws'.map Prod.fst = ws.map Prod.fst) (hD : va_D A ws) : va_D A ws' := by
  have key : ∀ (k : Nat) (q : Nat × va_E), ws'[k]? = some q → ∃ q0, ws[k]? = some q0 ∧ q0.1 = q.1 := by
    intro k q hk
    have h1 : (ws.map Prod.fst)[k]? = some q.1 := by rw [← h, List.getElem?_map, hk]; rfl
    rw [List.getElem?_map] at h1
    cases h0 : ws[k]? with
    | none => rw [h0] at h1; cases h1
    | some x => rw [h0] at h1; exact ⟨x, rfl, Option.some.inj h1⟩
  refine ⟨fun i j x y hi hj hxy => ?_, fun k q hk => ?_⟩
  · obtain ⟨x0, h1, h2⟩ := key i x hi
    obtain ⟨y0, h3, h4⟩ := key j y hj
    exact hD.1 i j x0 y0 h1 h3 (h2.trans (hxy.trans h4.symm))
  · obtain ⟨q0, h1, h2⟩ := key k q hk
    rw [← h2]
    exact hD.2 k q0 h1
theorem z_P_repl {D : va_G} {cl : List vw_C} {A : Nat → Prop} {ws wc w1 : va_W} {H H1 : Heap} (is : List Nat) (hP : va_P D cl ws H) (hD : va_D A ws) (hC : is.map (fun i => ws[i]?) = wc.map some) (hw : w1.map Prod.fst = wc.map Prod.fst) (hk : ∀ q : Nat, q < H.size → ¬ zA wc q → H1[q]? = H[q]?) (hP1 : va_P D cl w1 H1) : va_P D cl (zrepl ws is w1) H1 := by
  intro k q hq
  have hlen : is.length = w1.length := by
    have h1 := congrArg List.length hC
    have h2 := congrArg List.length hw
    simp only [List.length_map] at h1 h2
    omega
  rcases z_at_repl is ws w1 k q hq with h | ⟨h, hn⟩
  · obtain ⟨j, hj⟩ := List.getElem?_of_mem h
    exact hP1 j q hj
  · refine (hP k q h).kept (hk q.1 (hP k q h).lt ?_)
    intro hm
    obtain ⟨x, hx, e⟩ := List.mem_map.mp hm
    obtain ⟨j, hj⟩ := List.getElem?_of_mem hx
    have h1 : (is.map (fun i => ws[i]?))[j]? = some (some x) := by rw [hC, List.getElem?_map, hj]; rfl
    rw [List.getElem?_map] at h1
    cases hi : is[j]? with
    | none => rw [hi] at h1; cases h1
    | some i =>
      rw [hi] at h1
      have hi2 : ws[i]? = some x := Option.some.inj h1
      have := hD.1 k i q x h hi2 e.symm
      subst this
      exact hn (by omega) (List.mem_of_getElem? hi)
theorem z_fst_of {ws wc w1 : va_W} {is : List Nat} (hC : is.map (fun i => ws[i]?) = wc.map some) (hw : w1.map Prod.fst = wc.map Prod.fst) : is.map (fun i => (ws[i]?).map Prod.fst) = w1.map (fun q => some q.1) := by
  have h1 : is.map (fun i => (ws[i]?).map Prod.fst) = (is.map (fun i => ws[i]?)).map (fun o => o.map Prod.fst) := by rw [List.map_map]; rfl
  have h2 : w1.map (fun q => some q.1) = (w1.map Prod.fst).map some := by rw [List.map_map]; rfl
  have h3 : (wc.map some).map (fun o : Option (Nat × va_E) => o.map Prod.fst) = (wc.map Prod.fst).map some := by rw [List.map_map, List.map_map]; rfl
  rw [h1, hC, h2, hw, h3]
theorem z_freeA {A : Nat → Prop} {ws wc : va_W} {is : List Nat} (hD : va_D A ws) (hC : is.map (fun i => ws[i]?) = wc.map some) : ∀ q, zA wc q → A q := by
  intro q hm
  obtain ⟨x, hx, e⟩ := List.mem_map.mp hm
  obtain ⟨j, hj⟩ := List.getElem?_of_mem hx
  have h1 : (is.map (fun i => ws[i]?))[j]? = some (some x) := by rw [hC, List.getElem?_map, hj]; rfl
  rw [List.getElem?_map] at h1
  cases hi : is[j]? with
  | none => rw [hi] at h1; cases h1
  | some i =>
    rw [hi] at h1
    rw [← e]
    exact hD.2 i x (Option.some.inj h1)

section ZC
variable {p : Program} {l : Launch} {e : Env} {R : Room} {s : State} {m : MethodId} {args : Array Value} {below : List Frame} {meth : Method} {c : Code} {H : Heap} {locs : List Loc} {cells slots : Nat} {Q : State → Prop}
variable {pc : Nat} {ls : Array Slot} {rest st0 : List Value} {a : Array Value} {A0 : Nat → Prop} {H0 : Heap} {mc ms : Nat} {D : va_G} {cl : List vw_C} {ws wc : va_W}
theorem z_callv {S : Type} {post : S → Prop} {w1 : S → va_W} (is : List Nat) (hC : is.map (fun i => ws[i]?) = wc.map some) (hw : ∀ u, (w1 u).map Prod.fst = wc.map Prod.fst) (hP : va_P D cl ws H) (hD : va_D A0 ws) (hS : va_S A0 H0 H locs) (hr : va_Run p l e R s m args below meth c H locs cells slots 0 0 (F0 m pc ls st0) rest (va_Qv post (fun u t => va_P D cl (w1 u) t.heap) (zA wc) a) (zA wc)) (kk : ∀ (u : S) (H1 : Heap) (locs1 : List Loc), post u → va_P D cl (zrepl ws is (w1 u)) H1 → va_D A0 (zrepl ws is (w1 u)) → va_S A0 H0 H1 locs1 → W p l e R s m args below meth c H1 locs1 cells slots Q (F0 m (pc + 3) ls (rest))) : W p l e R s m args below meth c H locs cells slots Q (F0 m pc ls st0) :=
  va_callv hr hS (fun q _ h => z_freeA hD hC q h) (z_freeA hD hC) (fun u t H1 locs1 ht hvm hp hB hz hk hS1 => kk u H1 locs1 hp (z_P_repl is hP hD hC (hw u) hk (ht ▸ hB)) (z_D_congr (z_fst_repl is ws (w1 u) (z_fst_of hC (hw u))) hD) hS1)
theorem z_calli {S : Type} {post : Int32 → S → Prop} {w1 : S → va_W} (is : List Nat) (hC : is.map (fun i => ws[i]?) = wc.map some) (hw : ∀ u, (w1 u).map Prod.fst = wc.map Prod.fst) (hP : va_P D cl ws H) (hD : va_D A0 ws) (hS : va_S A0 H0 H locs) (hr : va_Run p l e R s m args below meth c H locs cells slots 0 0 (F0 m pc ls st0) rest (va_Qi post (fun u t => va_P D cl (w1 u) t.heap) (zA wc) a) (zA wc)) (kk : ∀ (r : Int32) (u : S) (H1 : Heap) (locs1 : List Loc), post r u → va_P D cl (zrepl ws is (w1 u)) H1 → va_D A0 (zrepl ws is (w1 u)) → va_S A0 H0 H1 locs1 → W p l e R s m args below meth c H1 locs1 cells slots Q (F0 m (pc + 3) ls (.int r :: rest))) : W p l e R s m args below meth c H locs cells slots Q (F0 m pc ls st0) :=
  va_calli hr hS (fun q _ h => z_freeA hD hC q h) (z_freeA hD hC) (fun r u t H1 locs1 ht hvm hp hB hz hk hS1 => kk r u H1 locs1 hp (z_P_repl is hP hD hC (hw u) hk (ht ▸ hB)) (z_D_congr (z_fst_repl is ws (w1 u) (z_fst_of hC (hw u))) hD) hS1)
theorem z_callq {S : Type} {post : Option Nat → S → Prop} {w1 : S → va_W} (is : List Nat) (hC : is.map (fun i => ws[i]?) = wc.map some) (hw : ∀ u, (w1 u).map Prod.fst = wc.map Prod.fst) (hP : va_P D cl ws H) (hD : va_D A0 ws) (hS : va_S A0 H0 H locs) (hr : va_Run p l e R s m args below meth c H locs cells slots 0 0 (F0 m pc ls st0) rest (va_Qq post (fun u t => va_P D cl (w1 u) t.heap) (zA wc) a) (zA wc)) (kk : ∀ (r : Option Nat) (u : S) (H1 : Heap) (locs1 : List Loc), post r u → va_P D cl (zrepl ws is (w1 u)) H1 → va_D A0 (zrepl ws is (w1 u)) → va_S A0 H0 H1 locs1 → W p l e R s m args below meth c H1 locs1 cells slots Q (F0 m (pc + 3) ls (va_rf r :: rest))) : W p l e R s m args below meth c H locs cells slots Q (F0 m pc ls st0) :=
  va_callq hr hS (fun q _ h => z_freeA hD hC q h) (z_freeA hD hC) (fun r u t H1 locs1 ht hvm hp hB hz hk hS1 => kk r u H1 locs1 hp (z_P_repl is hP hD hC (hw u) hk (ht ▸ hB)) (z_D_congr (z_fst_repl is ws (w1 u) (z_fst_of hC (hw u))) hD) hS1)
end ZC
end
section
theorem ts_bit {w : Int64} {s : UInt64} {j : Nat} (hj : j < 64) (hs : s.toNat = j) : ((w.toUInt64 >>> s).toInt64 &&& 1) = 0 ↔ w.toBitVec.getLsbD j = false := by
  have e : (w.toUInt64 >>> s).toInt64.toBitVec = w.toBitVec >>> j := by
    apply BitVec.eq_of_toNat_eq
    show (w.toUInt64 >>> s).toNat = _
    rw [UInt64.toNat_shiftRight, hs, Nat.mod_eq_of_lt hj, BitVec.toNat_ushiftRight]
    rfl
  rw [← Int64.toBitVec_inj, Int64.toBitVec_and, e]
  show w.toBitVec >>> j &&& 1#64 = 0#64 ↔ _
  constructor
  · intro h
    have t := congrArg (fun x => x.getLsbD 0) h
    simpa using t
  · intro h
    apply BitVec.eq_of_getLsbD_eq
    intro i hi
    cases i with
    | zero => simp [h]
    | succ i => simp
theorem z_and1 (x : Int64) : x &&& 1 = 0 ∨ x &&& 1 = 1 := by
  have h : (x &&& 1).toBitVec = BitVec.ofNat 64 (x.toBitVec.toNat % 2) := by
    rw [Int64.toBitVec_and]
    apply BitVec.eq_of_toNat_eq
    rw [BitVec.toNat_and]
    show x.toBitVec.toNat &&& 1 = _
    rw [Nat.and_one_is_mod, BitVec.toNat_ofNat]
    omega
  rcases Nat.mod_two_eq_zero_or_one x.toBitVec.toNat with q | q <;> rw [q] at h
  · exact Or.inl (Int64.toBitVec_inj.mp h)
  · exact Or.inr (Int64.toBitVec_inj.mp h)
/-- the bit of occurrence o in set i of the words f -/
def zbt (f : Nat → Int64) (i o : Nat) : Bool := (f (4 * i + o / 64)).toBitVec.getLsbD (o % 64)
def zclr (f : Nat → Int64) (i : Nat) : Nat → Int64 := fun j => if 4 * i ≤ j ∧ j < 4 * i + 4 then 0 else f j
def zadd (f : Nat → Int64) (i o : Nat) : Nat → Int64 := vp_updL f (4 * i + o / 64) (f (4 * i + o / 64) ||| ((1 : Int64) <<< ((zI (o : Int)).toInt64 &&& 63)))
def zor (f : Nat → Int64) (i : Nat) (g : Nat → Int64) (k : Nat) : Nat → Int64 := fun j => if 4 * i ≤ j ∧ j < 4 * i + 4 then f j ||| g (4 * k + (j - 4 * i)) else f j
theorem z_sh256 : ∀ o, o < 256 → ((1 : Int64) <<< ((nI o).toInt64 &&& 63)).toBitVec = BitVec.twoPow 64 (o % 64) := by decide +kernel
theorem z_cu256 : ∀ o, o < 256 → ((nI o).toInt64.toUInt64 &&& Int64.toUInt64 63).toNat = o % 64 := by decide +kernel
theorem z_bit (w : Int64) (o : Nat) (ho : o < 256) : lg_cmp ((w.toUInt64 >>> ((zI (o : Int)).toInt64.toUInt64 &&& Int64.toUInt64 63)).toInt64 &&& 1) 0 = zB (w.toBitVec.getLsbD (o % 64)) := by
  rw [zI_nat]
  have h := ts_bit (w := w) (j := o % 64) (Nat.mod_lt _ (by decide)) (z_cu256 o ho)
  rcases z_and1 ((w.toUInt64 >>> ((nI o).toInt64.toUInt64 &&& Int64.toUInt64 63)).toInt64) with q | q
  · rw [q, h.mp q]; decide
  · have h1 : w.toBitVec.getLsbD (o % 64) = true := by
      cases hb : w.toBitVec.getLsbD (o % 64) with
      | true => rfl
      | false => rw [h.mpr hb] at q; exact absurd q (by decide)
    rw [q, h1]; decide
theorem zbt_clr (f : Nat → Int64) (i i2 o : Nat) (ho : o < 256) : zbt (zclr f i) i2 o = (if i2 = i then false else zbt f i2 o) := by
  unfold zbt zclr
  by_cases h : i2 = i
  · subst h
    rw [if_pos (by omega), if_pos rfl]
    show (0#64).getLsbD _ = false
    simp
  · rw [if_neg (by omega), if_neg h]
theorem zbt_or (f g : Nat → Int64) (i k i2 o : Nat) (ho : o < 256) : zbt (zor f i g k) i2 o = (if i2 = i then (zbt f i o || zbt g k o) else zbt f i2 o) := by
  unfold zbt zor
  by_cases h : i2 = i
  · subst h
    rw [if_pos (by omega), if_pos rfl, Int64.toBitVec_or, BitVec.getLsbD_or, show 4 * k + (4 * i2 + o / 64 - 4 * i2) = 4 * k + o / 64 by omega]
  · rw [if_neg (by omega), if_neg h]
theorem zbt_add (f : Nat → Int64) (i o i2 o2 : Nat) (ho : o < 256) (ho2 : o2 < 256) : zbt (zadd f i o) i2 o2 = ((decide (i2 = i) && decide (o2 = o)) || zbt f i2 o2) := by
  unfold zbt zadd vp_updL
  by_cases h : 4 * i2 + o2 / 64 = 4 * i + o / 64
  · have hi : i2 = i := by omega
    rw [if_pos h, Int64.toBitVec_or, BitVec.getLsbD_or, zI_nat, z_sh256 o ho, BitVec.getLsbD_twoPow, ← h]
    have hq : (o % 64 = o2 % 64) ↔ o2 = o := by omega
    by_cases hoo : o2 = o
    · have := hq.mpr hoo
      simp [hi, hoo, Nat.mod_lt]
    · have : ¬ (o % 64 = o2 % 64) := fun q => hoo (hq.mp q)
      simp [hi, hoo, this]
  · rw [if_neg h]
    have : ¬ (i2 = i ∧ o2 = o) := fun q => h (by rw [q.1, q.2])
    by_cases h1 : i2 = i
    · have h2 : ¬ o2 = o := fun q => this ⟨h1, q⟩
      simp [h2]
    · simp [h1]
theorem zbt_zero (i o : Nat) : zbt (fun _ => 0) i o = false := by
  unfold zbt
  show (0#64).getLsbD _ = false
  simp
theorem z_div4 (n : Nat) (h : n < 100000) : zI ((4 * n : Nat) : Int) / zI 4 = zI (n : Int) := by
  rw [zI_nat, zI_nat, show zI 4 = nI 4 by decide, pk_div (by omega) (by omega) (by omega), Nat.mul_div_cancel_left n (by decide)]
theorem z_shr6 (o : Nat) (h : o < 100000) : zI (o : Int) >>> (zI 6 &&& 31) = zI ((o / 64 : Nat) : Int) := by
  rw [zI_nat, zI_nat, pk_shrN (by omega) _ 6 (by decide)]
theorem z_clr_step (f : Nat → Int64) (i w : Nat) : vp_updL (fun j => if 4 * i ≤ j ∧ j < 4 * i + w then 0 else f j) (4 * i + w) 0 = (fun j => if 4 * i ≤ j ∧ j < 4 * i + (w + 1) then 0 else f j) := by
  funext j
  unfold vp_updL
  by_cases h : j = 4 * i + w
  · rw [if_pos h, if_pos (by omega)]
  · rw [if_neg h]
    dsimp only
    by_cases h2 : 4 * i ≤ j ∧ j < 4 * i + w
    · rw [if_pos h2, if_pos (by omega)]
    · rw [if_neg h2, if_neg (by omega)]
theorem z_or_step (f g : Nat → Int64) (i k w : Nat) : vp_updL (fun j => if 4 * i ≤ j ∧ j < 4 * i + w then f j ||| g (4 * k + (j - 4 * i)) else f j) (4 * i + w) (f (4 * i + w) ||| g (4 * k + w)) = (fun j => if 4 * i ≤ j ∧ j < 4 * i + (w + 1) then f j ||| g (4 * k + (j - 4 * i)) else f j) := by
  funext j
  unfold vp_updL
  by_cases h : j = 4 * i + w
  · rw [if_pos h, if_pos (by omega), h, show 4 * i + w - 4 * i = w by omega]
  · rw [if_neg h]
    dsimp only
    by_cases h2 : 4 * i ≤ j ∧ j < 4 * i + w
    · rw [if_pos h2, if_pos (by omega)]
    · rw [if_neg h2, if_neg (by omega)]
end
section
theorem k_Dr_c15 : Cond.classLink R_Dr 15 R_Se ∈ ALLW := kmem 37 (by decide +kernel) rfl
theorem k_Dr_c70 : Cond.classLink R_Dr 70 R_Mo ∈ ALLW := kmem 203 (by decide +kernel) rfl
theorem k_Dr_f20 : Cond.fieldLink R_Dr 20 "RowModels$Draft" "followers" "LRowModels$Sets;" ∈ ALLW := kmem 53 (by decide +kernel) rfl
theorem k_Dr_f24 : Cond.fieldLink R_Dr 24 "RowModels$Draft" "firsts" "LRowModels$Sets;" ∈ ALLW := kmem 54 (by decide +kernel) rfl
theorem k_Dr_f27 : Cond.fieldLink R_Dr 27 "RowModels$Draft" "lasts" "LRowModels$Sets;" ∈ ALLW := kmem 55 (by decide +kernel) rfl
theorem k_Dr_f30 : Cond.fieldLink R_Dr 30 "RowModels$Draft" "mayBeNone" "[Z" ∈ ALLW := kmem 56 (by decide +kernel) rfl
theorem k_Dr_f34 : Cond.fieldLink R_Dr 34 "RowModels$Draft" "partCount" "I" ∈ ALLW := kmem 58 (by decide +kernel) rfl
theorem k_Dr_f38 : Cond.fieldLink R_Dr 38 "RowModels$Draft" "nameCount" "I" ∈ ALLW := kmem 57 (by decide +kernel) rfl
theorem k_Dr_f9 : Cond.fieldLink R_Dr 9 "RowModels$Draft" "names" "[I" ∈ ALLW := kmem 52 (by decide +kernel) rfl
theorem k_Dr_m17 : Cond.methodLink R_Dr 17 y_Se_init ∈ ALLW := kmem 39 (by decide +kernel) rfl
theorem k_Dr_m3 : Cond.methodLink R_Dr 3 objectInit ∈ ALLW := kmem 36 (by decide +kernel) rfl
theorem k_Dr_m41 : Cond.methodLink R_Dr 41 y_Se_removeAll ∈ ALLW := kmem 124 (by decide +kernel) rfl
theorem k_Dr_m44 : Cond.methodLink R_Dr 44 y_Se_add ∈ ALLW := kmem 132 (by decide +kernel) rfl
theorem k_Dr_m48 : Cond.methodLink R_Dr 48 y_Dr_hasPart ∈ ALLW := kmem 148 (by decide +kernel) rfl
theorem k_Dr_m52 : Cond.methodLink R_Dr 52 y_Dr_letFollow ∈ ALLW := kmem 152 (by decide +kernel) rfl
theorem k_Dr_m55 : Cond.methodLink R_Dr 55 y_Se_addAll ∈ ALLW := kmem 160 (by decide +kernel) rfl
theorem k_Dr_m59 : Cond.methodLink R_Dr 59 y_Se_holds ∈ ALLW := kmem 156 (by decide +kernel) rfl
theorem k_Dr_m63 : Cond.methodLink R_Dr 63 Lib.Math.max.name ∈ ALLW := kmem 196 (by decide +kernel) rfl
theorem k_Dr_m69 : Cond.methodLink R_Dr 69 y_Mo_entry ∈ ALLW := kmem 197 (by decide +kernel) rfl
theorem k_Dr_m74 : Cond.methodLink R_Dr 74 y_Mo_sort ∈ ALLW := kmem 200 (by decide +kernel) rfl
theorem k_Dr_m78 : Cond.methodLink R_Dr 78 y_Mo_init ∈ ALLW := kmem 205 (by decide +kernel) rfl
theorem k_Mo_f15 : Cond.fieldLink R_Mo 15 "RowModels$Model" "followers" "LRowModels$Sets;" ∈ ALLW := kmem 224 (by decide +kernel) rfl
theorem k_Mo_f23 : Cond.fieldLink R_Mo 23 "RowModels$Model" "deterministic" "Z" ∈ ALLW := kmem 225 (by decide +kernel) rfl
theorem k_Mo_f9 : Cond.fieldLink R_Mo 9 "RowModels$Model" "entries" "[I" ∈ ALLW := kmem 222 (by decide +kernel) rfl
theorem k_Mo_m19 : Cond.methodLink R_Mo 19 y_Mo_hasTwinsAnywhere ∈ ALLW := kmem 209 (by decide +kernel) rfl
theorem k_Mo_m27 : Cond.methodLink R_Mo 27 y_Mo_hasTwins ∈ ALLW := kmem 212 (by decide +kernel) rfl
theorem k_Mo_m3 : Cond.methodLink R_Mo 3 objectInit ∈ ALLW := kmem 208 (by decide +kernel) rfl
theorem k_Mo_m31 : Cond.methodLink R_Mo 31 y_Mo_occurrenceOf ∈ ALLW := kmem 215 (by decide +kernel) rfl
theorem k_Mo_m35 : Cond.methodLink R_Mo 35 y_Se_holds ∈ ALLW := kmem 218 (by decide +kernel) rfl
theorem k_Mo_m41 : Cond.methodLink R_Mo 41 y_Mo_nameOf ∈ ALLW := kmem 219 (by decide +kernel) rfl
theorem k_Mo_m44 : Cond.methodLink R_Mo 44 y_Se_removeAll ∈ ALLW := kmem 258 (by decide +kernel) rfl
theorem k_Mo_m48 : Cond.methodLink R_Mo 48 y_Se_addAll ∈ ALLW := kmem 259 (by decide +kernel) rfl
theorem k_Re_c15 : Cond.classLink R_Re 15 R_Se ∈ ALLW := kmem 84 (by decide +kernel) rfl
theorem k_Re_f20 : Cond.fieldLink R_Re 20 "RowModels$Reading" "comes" "LRowModels$Sets;" ∈ ALLW := kmem 87 (by decide +kernel) rfl
theorem k_Re_f24 : Cond.fieldLink R_Re 24 "RowModels$Reading" "model" "LRowModels$Model;" ∈ ALLW := kmem 88 (by decide +kernel) rfl
theorem k_Re_f28 : Cond.fieldLink R_Re 28 "RowModels$Reading" "count" "I" ∈ ALLW := kmem 89 (by decide +kernel) rfl
theorem k_Re_f9 : Cond.fieldLink R_Re 9 "RowModels$Reading" "names" "[I" ∈ ALLW := kmem 86 (by decide +kernel) rfl
theorem k_Re_m17 : Cond.methodLink R_Re 17 y_Se_init ∈ ALLW := kmem 85 (by decide +kernel) rfl
theorem k_Re_m3 : Cond.methodLink R_Re 3 objectInit ∈ ALLW := kmem 83 (by decide +kernel) rfl
theorem k_Re_m32 : Cond.methodLink R_Re 32 y_Mo_putFirst ∈ ALLW := kmem 254 (by decide +kernel) rfl
theorem k_Re_m38 : Cond.methodLink R_Re 38 y_Mo_putBehind ∈ ALLW := kmem 268 (by decide +kernel) rfl
theorem k_Re_m42 : Cond.methodLink R_Re 42 y_Se_holds ∈ ALLW := kmem 280 (by decide +kernel) rfl
theorem k_Re_m46 : Cond.methodLink R_Re 46 y_Mo_hasName ∈ ALLW := kmem 289 (by decide +kernel) rfl
theorem k_Re_m50 : Cond.methodLink R_Re 50 y_Mo_nameAt ∈ ALLW := kmem 301 (by decide +kernel) rfl
theorem k_Se_f17 : Cond.fieldLink R_Se 17 "RowModels$Sets" "words" "[J" ∈ ALLW := kmem 46 (by decide +kernel) rfl
theorem k_Se_m21 : Cond.methodLink R_Se 21 y_Se_hasSet ∈ ALLW := kmem 128 (by decide +kernel) rfl
theorem k_Se_m25 : Cond.methodLink R_Se 25 y_Se_hasPlace ∈ ALLW := kmem 136 (by decide +kernel) rfl
theorem k_Se_m3 : Cond.methodLink R_Se 3 objectInit ∈ ALLW := kmem 42 (by decide +kernel) rfl
theorem k_Se_m9 : Cond.methodLink R_Se 9 Lib.Math.max.name ∈ ALLW := kmem 43 (by decide +kernel) rfl
theorem k_To_c16 : Cond.classLink R_To 16 R_Mo ∈ ALLW := kmem 76 (by decide +kernel) rfl
theorem k_To_c22 : Cond.classLink R_To 22 R_Re ∈ ALLW := kmem 78 (by decide +kernel) rfl
theorem k_To_c9 : Cond.classLink R_To 9 R_Dr ∈ ALLW := kmem 31 (by decide +kernel) rfl
theorem k_To_f12 : Cond.fieldLink R_To 12 "RowModels" "draft" "LRowModels$Draft;" ∈ ALLW := kmem 100 (by decide +kernel) rfl
theorem k_To_f18 : Cond.fieldLink R_To 18 "RowModels" "models" "[LRowModels$Model;" ∈ ALLW := kmem 101 (by decide +kernel) rfl
theorem k_To_f25 : Cond.fieldLink R_To 25 "RowModels" "reading" "LRowModels$Reading;" ∈ ALLW := kmem 102 (by decide +kernel) rfl
theorem k_To_f29 : Cond.fieldLink R_To 29 "RowModels" "modelCount" "I" ∈ ALLW := kmem 103 (by decide +kernel) rfl
theorem k_To_m3 : Cond.methodLink R_To 3 objectInit ∈ ALLW := kmem 28 (by decide +kernel) rfl
theorem k_To_m33 : Cond.methodLink R_To 33 y_To_isName ∈ ALLW := kmem 117 (by decide +kernel) rfl
theorem k_To_m37 : Cond.methodLink R_To 37 y_Dr_addName ∈ ALLW := kmem 120 (by decide +kernel) rfl
theorem k_To_m43 : Cond.methodLink R_To 43 y_Dr_joinToRow ∈ ALLW := kmem 144 (by decide +kernel) rfl
theorem k_To_m47 : Cond.methodLink R_To 47 y_Dr_joinToChoice ∈ ALLW := kmem 168 (by decide +kernel) rfl
theorem k_To_m50 : Cond.methodLink R_To 50 y_Dr_repeatLast ∈ ALLW := kmem 176 (by decide +kernel) rfl
theorem k_To_m53 : Cond.methodLink R_To 53 y_Dr_dropAll ∈ ALLW := kmem 184 (by decide +kernel) rfl
theorem k_To_m56 : Cond.methodLink R_To 56 y_Dr_toModel ∈ ALLW := kmem 192 (by decide +kernel) rfl
theorem k_To_m60 : Cond.methodLink R_To 60 y_To_modelAt ∈ ALLW := kmem 238 (by decide +kernel) rfl
theorem k_To_m72 : Cond.methodLink R_To 72 y_Re_startWith ∈ ALLW := kmem 250 (by decide +kernel) rfl
theorem k_To_m76 : Cond.methodLink R_To 76 y_Re_take ∈ ALLW := kmem 264 (by decide +kernel) rfl
theorem k_To_m82 : Cond.methodLink R_To 82 y_Re_mayEnd ∈ ALLW := kmem 276 (by decide +kernel) rfl
theorem k_To_m85 : Cond.methodLink R_To 85 y_Re_mayTake ∈ ALLW := kmem 285 (by decide +kernel) rfl
theorem k_To_m88 : Cond.methodLink R_To 88 y_Re_offer ∈ ALLW := kmem 297 (by decide +kernel) rfl
theorem k_To_m92 : Cond.methodLink R_To 92 y_Re_takeBack ∈ ALLW := kmem 309 (by decide +kernel) rfl
theorem k_a_boolean : Cond.arrayClass .boolean ∈ ALLW := kmem 75 (by decide +kernel) rfl
theorem k_a_int : Cond.arrayClass .int ∈ ALLW := kmem 50 (by decide +kernel) rfl
theorem k_a_long : Cond.arrayClass .long ∈ ALLW := kmem 51 (by decide +kernel) rfl
theorem k_c_Dr_addName : Cond.code y_Dr_addName b_Dr_addName 4 (some .boolean) ∈ ALLW := kmem 123 rfl rfl
theorem k_c_Dr_dropAll : Cond.code y_Dr_dropAll b_Dr_dropAll 1 none ∈ ALLW := kmem 187 rfl rfl
theorem k_c_Dr_hasPart : Cond.code y_Dr_hasPart b_Dr_hasPart 2 (some .boolean) ∈ ALLW := kmem 151 rfl rfl
theorem k_c_Dr_init : Cond.code y_Dr_init b_Dr_init 1 none ∈ ALLW := kmem 35 rfl rfl
theorem k_c_Dr_joinToChoice : Cond.code y_Dr_joinToChoice b_Dr_joinToChoice 3 (some .boolean) ∈ ALLW := kmem 171 rfl rfl
theorem k_c_Dr_joinToRow : Cond.code y_Dr_joinToRow b_Dr_joinToRow 3 (some .boolean) ∈ ALLW := kmem 147 rfl rfl
theorem k_c_Dr_letFollow : Cond.code y_Dr_letFollow b_Dr_letFollow 4 none ∈ ALLW := kmem 155 rfl rfl
theorem k_c_Dr_repeatLast : Cond.code y_Dr_repeatLast b_Dr_repeatLast 3 (some .boolean) ∈ ALLW := kmem 179 rfl rfl
theorem k_c_Dr_toModel : Cond.code y_Dr_toModel b_Dr_toModel 4 (some (.object "RowModels$Model")) ∈ ALLW := kmem 195 rfl rfl
theorem k_c_Mo_entry : Cond.code y_Mo_entry b_Mo_entry 2 (some .int) ∈ ALLW := kmem 199 rfl rfl
theorem k_c_Mo_hasName : Cond.code y_Mo_hasName b_Mo_hasName 5 (some .boolean) ∈ ALLW := kmem 292 rfl rfl
theorem k_c_Mo_hasTwins : Cond.code y_Mo_hasTwins b_Mo_hasTwins 5 (some .boolean) ∈ ALLW := kmem 214 rfl rfl
theorem k_c_Mo_hasTwinsAnywhere : Cond.code y_Mo_hasTwinsAnywhere b_Mo_hasTwinsAnywhere 3 (some .boolean) ∈ ALLW := kmem 211 rfl rfl
theorem k_c_Mo_init : Cond.code y_Mo_init b_Mo_init 3 none ∈ ALLW := kmem 207 rfl rfl
theorem k_c_Mo_nameAt : Cond.code y_Mo_nameAt b_Mo_nameAt 8 (some .int) ∈ ALLW := kmem 304 rfl rfl
theorem k_c_Mo_nameOf : Cond.code y_Mo_nameOf b_Mo_nameOf 1 (some .int) ∈ ALLW := kmem 221 rfl rfl
theorem k_c_Mo_occurrenceOf : Cond.code y_Mo_occurrenceOf b_Mo_occurrenceOf 1 (some .int) ∈ ALLW := kmem 217 rfl rfl
theorem k_c_Mo_putBehind : Cond.code y_Mo_putBehind b_Mo_putBehind 6 none ∈ ALLW := kmem 271 rfl rfl
theorem k_c_Mo_putFirst : Cond.code y_Mo_putFirst b_Mo_putFirst 3 none ∈ ALLW := kmem 257 rfl rfl
theorem k_c_Mo_sort : Cond.code y_Mo_sort b_Mo_sort 4 none ∈ ALLW := kmem 202 rfl rfl
theorem k_c_Re_init : Cond.code y_Re_init b_Re_init 1 none ∈ ALLW := kmem 82 rfl rfl
theorem k_c_Re_mayEnd : Cond.code y_Re_mayEnd b_Re_mayEnd 1 (some .boolean) ∈ ALLW := kmem 279 rfl rfl
theorem k_c_Re_mayTake : Cond.code y_Re_mayTake b_Re_mayTake 2 (some .boolean) ∈ ALLW := kmem 288 rfl rfl
theorem k_c_Re_offer : Cond.code y_Re_offer b_Re_offer 2 (some .int) ∈ ALLW := kmem 300 rfl rfl
theorem k_c_Re_startWith : Cond.code y_Re_startWith b_Re_startWith 2 none ∈ ALLW := kmem 253 rfl rfl
theorem k_c_Re_take : Cond.code y_Re_take b_Re_take 2 (some .boolean) ∈ ALLW := kmem 267 rfl rfl
theorem k_c_Re_takeBack : Cond.code y_Re_takeBack b_Re_takeBack 2 (some .int) ∈ ALLW := kmem 312 rfl rfl
theorem k_c_Se_add : Cond.code y_Se_add b_Se_add 3 none ∈ ALLW := kmem 135 rfl rfl
theorem k_c_Se_addAll : Cond.code y_Se_addAll b_Se_addAll 5 none ∈ ALLW := kmem 163 rfl rfl
theorem k_c_Se_hasPlace : Cond.code y_Se_hasPlace b_Se_hasPlace 3 (some .boolean) ∈ ALLW := kmem 139 rfl rfl
theorem k_c_Se_hasSet : Cond.code y_Se_hasSet b_Se_hasSet 2 (some .boolean) ∈ ALLW := kmem 131 rfl rfl
theorem k_c_Se_holds : Cond.code y_Se_holds b_Se_holds 3 (some .boolean) ∈ ALLW := kmem 159 rfl rfl
theorem k_c_Se_init : Cond.code y_Se_init b_Se_init 2 none ∈ ALLW := kmem 41 rfl rfl
theorem k_c_Se_removeAll : Cond.code y_Se_removeAll b_Se_removeAll 3 none ∈ ALLW := kmem 127 rfl rfl
theorem k_c_To_isName : Cond.code y_To_isName b_To_isName 1 (some .boolean) ∈ ALLW := kmem 119 rfl rfl
theorem k_c_To_modelAt : Cond.code y_To_modelAt b_To_modelAt 2 (some (.object "RowModels$Model")) ∈ ALLW := kmem 241 rfl rfl
theorem k_c_mx : Cond.code Lib.Math.max.name Lib.Math.max.code 2 (some .int) ∈ ALLW := kmem 45 (by decide +kernel) rfl
theorem k_c_ob : Cond.code objectInit ⟨#[0xb1]⟩ 1 none ∈ ALLW := kmem 30 (by decide +kernel) rfl
theorem k_i_Dr_addName : Cond.instanceMethod y_Dr_addName ∈ ALLW := kmem 121 (by decide +kernel) rfl
theorem k_i_Dr_dropAll : Cond.instanceMethod y_Dr_dropAll ∈ ALLW := kmem 185 (by decide +kernel) rfl
theorem k_i_Dr_hasPart : Cond.instanceMethod y_Dr_hasPart ∈ ALLW := kmem 150 (by decide +kernel) rfl
theorem k_i_Dr_init : Cond.instanceMethod y_Dr_init ∈ ALLW := kmem 34 (by decide +kernel) rfl
theorem k_i_Dr_joinToChoice : Cond.instanceMethod y_Dr_joinToChoice ∈ ALLW := kmem 169 (by decide +kernel) rfl
theorem k_i_Dr_joinToRow : Cond.instanceMethod y_Dr_joinToRow ∈ ALLW := kmem 145 (by decide +kernel) rfl
theorem k_i_Dr_letFollow : Cond.instanceMethod y_Dr_letFollow ∈ ALLW := kmem 154 (by decide +kernel) rfl
theorem k_i_Dr_repeatLast : Cond.instanceMethod y_Dr_repeatLast ∈ ALLW := kmem 177 (by decide +kernel) rfl
theorem k_i_Dr_toModel : Cond.instanceMethod y_Dr_toModel ∈ ALLW := kmem 193 (by decide +kernel) rfl
theorem k_i_Mo_hasName : Cond.instanceMethod y_Mo_hasName ∈ ALLW := kmem 290 (by decide +kernel) rfl
theorem k_i_Mo_init : Cond.instanceMethod y_Mo_init ∈ ALLW := kmem 206 (by decide +kernel) rfl
theorem k_i_Mo_nameAt : Cond.instanceMethod y_Mo_nameAt ∈ ALLW := kmem 302 (by decide +kernel) rfl
theorem k_i_Mo_putBehind : Cond.instanceMethod y_Mo_putBehind ∈ ALLW := kmem 269 (by decide +kernel) rfl
theorem k_i_Mo_putFirst : Cond.instanceMethod y_Mo_putFirst ∈ ALLW := kmem 255 (by decide +kernel) rfl
theorem k_i_Re_init : Cond.instanceMethod y_Re_init ∈ ALLW := kmem 81 (by decide +kernel) rfl
theorem k_i_Re_mayEnd : Cond.instanceMethod y_Re_mayEnd ∈ ALLW := kmem 277 (by decide +kernel) rfl
theorem k_i_Re_mayTake : Cond.instanceMethod y_Re_mayTake ∈ ALLW := kmem 286 (by decide +kernel) rfl
theorem k_i_Re_offer : Cond.instanceMethod y_Re_offer ∈ ALLW := kmem 298 (by decide +kernel) rfl
theorem k_i_Re_startWith : Cond.instanceMethod y_Re_startWith ∈ ALLW := kmem 251 (by decide +kernel) rfl
theorem k_i_Re_take : Cond.instanceMethod y_Re_take ∈ ALLW := kmem 265 (by decide +kernel) rfl
theorem k_i_Re_takeBack : Cond.instanceMethod y_Re_takeBack ∈ ALLW := kmem 310 (by decide +kernel) rfl
theorem k_i_Se_add : Cond.instanceMethod y_Se_add ∈ ALLW := kmem 133 (by decide +kernel) rfl
theorem k_i_Se_addAll : Cond.instanceMethod y_Se_addAll ∈ ALLW := kmem 161 (by decide +kernel) rfl
theorem k_i_Se_hasPlace : Cond.instanceMethod y_Se_hasPlace ∈ ALLW := kmem 138 (by decide +kernel) rfl
theorem k_i_Se_hasSet : Cond.instanceMethod y_Se_hasSet ∈ ALLW := kmem 130 (by decide +kernel) rfl
theorem k_i_Se_holds : Cond.instanceMethod y_Se_holds ∈ ALLW := kmem 157 (by decide +kernel) rfl
theorem k_i_Se_init : Cond.instanceMethod y_Se_init ∈ ALLW := kmem 40 (by decide +kernel) rfl
theorem k_i_Se_removeAll : Cond.instanceMethod y_Se_removeAll ∈ ALLW := kmem 125 (by decide +kernel) rfl
theorem k_i_To_modelAt : Cond.instanceMethod y_To_modelAt ∈ ALLW := kmem 240 (by decide +kernel) rfl
theorem k_i_ob : Cond.instanceMethod objectInit ∈ ALLW := kmem 29 (by decide +kernel) rfl
theorem k_n_Dr : Cond.initialized R_Dr ∈ ALLW := kmem 17 (by decide +kernel) rfl
theorem k_n_Mo : Cond.initialized R_Mo ∈ ALLW := kmem 22 (by decide +kernel) rfl
theorem k_n_Re : Cond.initialized R_Re ∈ ALLW := kmem 20 (by decide +kernel) rfl
theorem k_n_Se : Cond.initialized R_Se ∈ ALLW := kmem 18 (by decide +kernel) rfl
theorem k_n_To : Cond.initialized R_To ∈ ALLW := kmem 16 (by decide +kernel) rfl
theorem k_n_mx : Cond.initialized "java/lang/Math" ∈ ALLW := kmem 19 (by decide +kernel) rfl
theorem k_o_Dr : Cond.instantiable R_Dr 7 ∈ ALLW := kmem 32 (by decide +kernel) rfl
theorem k_o_Mo : Cond.instantiable R_Mo 3 ∈ ALLW := kmem 204 (by decide +kernel) rfl
theorem k_o_Re : Cond.instantiable R_Re 4 ∈ ALLW := kmem 79 (by decide +kernel) rfl
theorem k_o_Se : Cond.instantiable R_Se 1 ∈ ALLW := kmem 38 (by decide +kernel) rfl
theorem k_s_Mo_entry : Cond.static y_Mo_entry ∈ ALLW := kmem 198 (by decide +kernel) rfl
theorem k_s_Mo_hasTwins : Cond.static y_Mo_hasTwins ∈ ALLW := kmem 213 (by decide +kernel) rfl
theorem k_s_Mo_hasTwinsAnywhere : Cond.static y_Mo_hasTwinsAnywhere ∈ ALLW := kmem 210 (by decide +kernel) rfl
theorem k_s_Mo_nameOf : Cond.static y_Mo_nameOf ∈ ALLW := kmem 220 (by decide +kernel) rfl
theorem k_s_Mo_occurrenceOf : Cond.static y_Mo_occurrenceOf ∈ ALLW := kmem 216 (by decide +kernel) rfl
theorem k_s_Mo_sort : Cond.static y_Mo_sort ∈ ALLW := kmem 201 (by decide +kernel) rfl
theorem k_s_To_isName : Cond.static y_To_isName ∈ ALLW := kmem 118 (by decide +kernel) rfl
theorem k_s_mx : Cond.static Lib.Math.max.name ∈ ALLW := kmem 44 (by decide +kernel) rfl
theorem k_v_Dr_addName : Cond.selects R_Dr y_Dr_addName y_Dr_addName ∈ ALLW := kmem 122 (by decide +kernel) rfl
theorem k_v_Dr_dropAll : Cond.selects R_Dr y_Dr_dropAll y_Dr_dropAll ∈ ALLW := kmem 186 (by decide +kernel) rfl
theorem k_v_Dr_hasPart : Cond.selects R_Dr y_Dr_hasPart y_Dr_hasPart ∈ ALLW := kmem 2 (by decide +kernel) rfl
theorem k_v_Dr_joinToChoice : Cond.selects R_Dr y_Dr_joinToChoice y_Dr_joinToChoice ∈ ALLW := kmem 170 (by decide +kernel) rfl
theorem k_v_Dr_joinToRow : Cond.selects R_Dr y_Dr_joinToRow y_Dr_joinToRow ∈ ALLW := kmem 146 (by decide +kernel) rfl
theorem k_v_Dr_letFollow : Cond.selects R_Dr y_Dr_letFollow y_Dr_letFollow ∈ ALLW := kmem 3 (by decide +kernel) rfl
theorem k_v_Dr_repeatLast : Cond.selects R_Dr y_Dr_repeatLast y_Dr_repeatLast ∈ ALLW := kmem 178 (by decide +kernel) rfl
theorem k_v_Dr_toModel : Cond.selects R_Dr y_Dr_toModel y_Dr_toModel ∈ ALLW := kmem 194 (by decide +kernel) rfl
theorem k_v_Mo_hasName : Cond.selects R_Mo y_Mo_hasName y_Mo_hasName ∈ ALLW := kmem 291 (by decide +kernel) rfl
theorem k_v_Mo_nameAt : Cond.selects R_Mo y_Mo_nameAt y_Mo_nameAt ∈ ALLW := kmem 303 (by decide +kernel) rfl
theorem k_v_Mo_putBehind : Cond.selects R_Mo y_Mo_putBehind y_Mo_putBehind ∈ ALLW := kmem 270 (by decide +kernel) rfl
theorem k_v_Mo_putFirst : Cond.selects R_Mo y_Mo_putFirst y_Mo_putFirst ∈ ALLW := kmem 256 (by decide +kernel) rfl
theorem k_v_Re_mayEnd : Cond.selects R_Re y_Re_mayEnd y_Re_mayEnd ∈ ALLW := kmem 278 (by decide +kernel) rfl
theorem k_v_Re_mayTake : Cond.selects R_Re y_Re_mayTake y_Re_mayTake ∈ ALLW := kmem 287 (by decide +kernel) rfl
theorem k_v_Re_offer : Cond.selects R_Re y_Re_offer y_Re_offer ∈ ALLW := kmem 299 (by decide +kernel) rfl
theorem k_v_Re_startWith : Cond.selects R_Re y_Re_startWith y_Re_startWith ∈ ALLW := kmem 252 (by decide +kernel) rfl
theorem k_v_Re_take : Cond.selects R_Re y_Re_take y_Re_take ∈ ALLW := kmem 266 (by decide +kernel) rfl
theorem k_v_Re_takeBack : Cond.selects R_Re y_Re_takeBack y_Re_takeBack ∈ ALLW := kmem 311 (by decide +kernel) rfl
theorem k_v_Se_add : Cond.selects R_Se y_Se_add y_Se_add ∈ ALLW := kmem 134 (by decide +kernel) rfl
theorem k_v_Se_addAll : Cond.selects R_Se y_Se_addAll y_Se_addAll ∈ ALLW := kmem 162 (by decide +kernel) rfl
theorem k_v_Se_hasPlace : Cond.selects R_Se y_Se_hasPlace y_Se_hasPlace ∈ ALLW := kmem 1 (by decide +kernel) rfl
theorem k_v_Se_hasSet : Cond.selects R_Se y_Se_hasSet y_Se_hasSet ∈ ALLW := kmem 0 (by decide +kernel) rfl
theorem k_v_Se_holds : Cond.selects R_Se y_Se_holds y_Se_holds ∈ ALLW := kmem 158 (by decide +kernel) rfl
theorem k_v_Se_removeAll : Cond.selects R_Se y_Se_removeAll y_Se_removeAll ∈ ALLW := kmem 126 (by decide +kernel) rfl
theorem k_v_To_modelAt : Cond.selects R_To y_To_modelAt y_To_modelAt ∈ ALLW := kmem 4 (by decide +kernel) rfl
end
section
theorem d_To_init_0 : decode b_To_init 0 = .ok (.aload_n 0, 1) := by decide +kernel
theorem d_To_init_1 : decode b_To_init 1 = .ok (.invokespecial 3, 3) := by decide +kernel
theorem d_To_init_4 : decode b_To_init 4 = .ok (.aload_n 0, 1) := by decide +kernel
theorem d_To_init_5 : decode b_To_init 5 = .ok (.new 9, 3) := by decide +kernel
theorem d_To_init_8 : decode b_To_init 8 = .ok (.dup, 1) := by decide +kernel
theorem d_To_init_9 : decode b_To_init 9 = .ok (.invokespecial 11, 3) := by decide +kernel
theorem d_To_init_12 : decode b_To_init 12 = .ok (.putfield 12, 3) := by decide +kernel
theorem d_To_init_15 : decode b_To_init 15 = .ok (.aload_n 0, 1) := by decide +kernel
theorem d_To_init_16 : decode b_To_init 16 = .ok (.bipush 50, 2) := by decide +kernel
theorem d_To_init_18 : decode b_To_init 18 = .ok (.anewarray 16, 3) := by decide +kernel
theorem d_To_init_21 : decode b_To_init 21 = .ok (.putfield 18, 3) := by decide +kernel
theorem d_To_init_24 : decode b_To_init 24 = .ok (.aload_n 0, 1) := by decide +kernel
theorem d_To_init_25 : decode b_To_init 25 = .ok (.new 22, 3) := by decide +kernel
theorem d_To_init_28 : decode b_To_init 28 = .ok (.dup, 1) := by decide +kernel
theorem d_To_init_29 : decode b_To_init 29 = .ok (.invokespecial 24, 3) := by decide +kernel
theorem d_To_init_32 : decode b_To_init 32 = .ok (.putfield 25, 3) := by decide +kernel
theorem d_To_init_35 : decode b_To_init 35 = .ok (.aload_n 0, 1) := by decide +kernel
theorem d_To_init_36 : decode b_To_init 36 = .ok (.iconst 0, 1) := by decide +kernel
theorem d_To_init_37 : decode b_To_init 37 = .ok (.putfield 29, 3) := by decide +kernel
theorem d_To_init_40 : decode b_To_init 40 = .ok (.return_, 1) := by decide +kernel
theorem d_To_name_0 : decode b_To_name 0 = .ok (.iload_n 1, 1) := by decide +kernel
theorem d_To_name_1 : decode b_To_name 1 = .ok (.invokestatic 33, 3) := by decide +kernel
theorem d_To_name_4 : decode b_To_name 4 = .ok (.ifCond .eq 24, 3) := by decide +kernel
theorem d_To_name_7 : decode b_To_name 7 = .ok (.aload_n 0, 1) := by decide +kernel
theorem d_To_name_8 : decode b_To_name 8 = .ok (.getfield 12, 3) := by decide +kernel
theorem d_To_name_11 : decode b_To_name 11 = .ok (.iload_n 1, 1) := by decide +kernel
theorem d_To_name_12 : decode b_To_name 12 = .ok (.invokevirtual 37, 3) := by decide +kernel
theorem d_To_name_15 : decode b_To_name 15 = .ok (.ifCond .eq 13, 3) := by decide +kernel
theorem d_To_name_18 : decode b_To_name 18 = .ok (.aload_n 0, 1) := by decide +kernel
theorem d_To_name_19 : decode b_To_name 19 = .ok (.getfield 12, 3) := by decide +kernel
theorem d_To_name_22 : decode b_To_name 22 = .ok (.getfield 40, 3) := by decide +kernel
theorem d_To_name_25 : decode b_To_name 25 = .ok (.goto 4, 3) := by decide +kernel
theorem d_To_name_28 : decode b_To_name 28 = .ok (.iconst (-1), 1) := by decide +kernel
theorem d_To_name_29 : decode b_To_name 29 = .ok (.ireturn, 1) := by decide +kernel
theorem d_To_row_0 : decode b_To_row 0 = .ok (.aload_n 0, 1) := by decide +kernel
theorem d_To_row_1 : decode b_To_row 1 = .ok (.getfield 12, 3) := by decide +kernel
theorem d_To_row_4 : decode b_To_row 4 = .ok (.invokevirtual 43, 3) := by decide +kernel
theorem d_To_row_7 : decode b_To_row 7 = .ok (.ifCond .eq 13, 3) := by decide +kernel
theorem d_To_row_10 : decode b_To_row 10 = .ok (.aload_n 0, 1) := by decide +kernel
theorem d_To_row_11 : decode b_To_row 11 = .ok (.getfield 12, 3) := by decide +kernel
theorem d_To_row_14 : decode b_To_row 14 = .ok (.getfield 40, 3) := by decide +kernel
theorem d_To_row_17 : decode b_To_row 17 = .ok (.goto 4, 3) := by decide +kernel
theorem d_To_row_20 : decode b_To_row 20 = .ok (.iconst (-1), 1) := by decide +kernel
theorem d_To_row_21 : decode b_To_row 21 = .ok (.ireturn, 1) := by decide +kernel
theorem d_To_choice_0 : decode b_To_choice 0 = .ok (.aload_n 0, 1) := by decide +kernel
theorem d_To_choice_1 : decode b_To_choice 1 = .ok (.getfield 12, 3) := by decide +kernel
theorem d_To_choice_4 : decode b_To_choice 4 = .ok (.invokevirtual 47, 3) := by decide +kernel
theorem d_To_choice_7 : decode b_To_choice 7 = .ok (.ifCond .eq 13, 3) := by decide +kernel
theorem d_To_choice_10 : decode b_To_choice 10 = .ok (.aload_n 0, 1) := by decide +kernel
theorem d_To_choice_11 : decode b_To_choice 11 = .ok (.getfield 12, 3) := by decide +kernel
theorem d_To_choice_14 : decode b_To_choice 14 = .ok (.getfield 40, 3) := by decide +kernel
theorem d_To_choice_17 : decode b_To_choice 17 = .ok (.goto 4, 3) := by decide +kernel
theorem d_To_choice_20 : decode b_To_choice 20 = .ok (.iconst (-1), 1) := by decide +kernel
theorem d_To_choice_21 : decode b_To_choice 21 = .ok (.ireturn, 1) := by decide +kernel
theorem d_To_often_0 : decode b_To_often 0 = .ok (.aload_n 0, 1) := by decide +kernel
theorem d_To_often_1 : decode b_To_often 1 = .ok (.getfield 12, 3) := by decide +kernel
theorem d_To_often_4 : decode b_To_often 4 = .ok (.iload_n 1, 1) := by decide +kernel
theorem d_To_often_5 : decode b_To_often 5 = .ok (.invokevirtual 50, 3) := by decide +kernel
theorem d_To_often_8 : decode b_To_often 8 = .ok (.ireturn, 1) := by decide +kernel
theorem d_To_clear_0 : decode b_To_clear 0 = .ok (.aload_n 0, 1) := by decide +kernel
theorem d_To_clear_1 : decode b_To_clear 1 = .ok (.getfield 12, 3) := by decide +kernel
theorem d_To_clear_4 : decode b_To_clear 4 = .ok (.getfield 40, 3) := by decide +kernel
theorem d_To_clear_7 : decode b_To_clear 7 = .ok (.istore_n 1, 1) := by decide +kernel
theorem d_To_clear_8 : decode b_To_clear 8 = .ok (.aload_n 0, 1) := by decide +kernel
theorem d_To_clear_9 : decode b_To_clear 9 = .ok (.getfield 12, 3) := by decide +kernel
theorem d_To_clear_12 : decode b_To_clear 12 = .ok (.invokevirtual 53, 3) := by decide +kernel
theorem d_To_clear_15 : decode b_To_clear 15 = .ok (.iload_n 1, 1) := by decide +kernel
theorem d_To_clear_16 : decode b_To_clear 16 = .ok (.ireturn, 1) := by decide +kernel
theorem d_To_make_0 : decode b_To_make 0 = .ok (.aload_n 0, 1) := by decide +kernel
theorem d_To_make_1 : decode b_To_make 1 = .ok (.getfield 29, 3) := by decide +kernel
theorem d_To_make_4 : decode b_To_make 4 = .ok (.istore_n 1, 1) := by decide +kernel
theorem d_To_make_5 : decode b_To_make 5 = .ok (.aload_n 0, 1) := by decide +kernel
theorem d_To_make_6 : decode b_To_make 6 = .ok (.getfield 12, 3) := by decide +kernel
theorem d_To_make_9 : decode b_To_make 9 = .ok (.getfield 40, 3) := by decide +kernel
theorem d_To_make_12 : decode b_To_make 12 = .ok (.iconst 1, 1) := by decide +kernel
theorem d_To_make_13 : decode b_To_make 13 = .ok (.if_icmp .ne 16, 3) := by decide +kernel
theorem d_To_make_16 : decode b_To_make 16 = .ok (.iload_n 1, 1) := by decide +kernel
theorem d_To_make_17 : decode b_To_make 17 = .ok (.ifCond .lt 12, 3) := by decide +kernel
theorem d_To_make_20 : decode b_To_make 20 = .ok (.iload_n 1, 1) := by decide +kernel
theorem d_To_make_21 : decode b_To_make 21 = .ok (.aload_n 0, 1) := by decide +kernel
theorem d_To_make_22 : decode b_To_make 22 = .ok (.getfield 18, 3) := by decide +kernel
theorem d_To_make_25 : decode b_To_make 25 = .ok (.arraylength, 1) := by decide +kernel
theorem d_To_make_26 : decode b_To_make 26 = .ok (.if_icmp .lt 5, 3) := by decide +kernel
theorem d_To_make_29 : decode b_To_make 29 = .ok (.iconst (-1), 1) := by decide +kernel
theorem d_To_make_30 : decode b_To_make 30 = .ok (.ireturn, 1) := by decide +kernel
theorem d_To_make_31 : decode b_To_make 31 = .ok (.aload_n 0, 1) := by decide +kernel
theorem d_To_make_32 : decode b_To_make 32 = .ok (.getfield 18, 3) := by decide +kernel
theorem d_To_make_35 : decode b_To_make 35 = .ok (.iload_n 1, 1) := by decide +kernel
theorem d_To_make_36 : decode b_To_make 36 = .ok (.aload_n 0, 1) := by decide +kernel
theorem d_To_make_37 : decode b_To_make 37 = .ok (.getfield 12, 3) := by decide +kernel
theorem d_To_make_40 : decode b_To_make 40 = .ok (.invokevirtual 56, 3) := by decide +kernel
theorem d_To_make_43 : decode b_To_make 43 = .ok (.aastore, 1) := by decide +kernel
theorem d_To_make_44 : decode b_To_make 44 = .ok (.aload_n 0, 1) := by decide +kernel
theorem d_To_make_45 : decode b_To_make 45 = .ok (.iload_n 1, 1) := by decide +kernel
theorem d_To_make_46 : decode b_To_make 46 = .ok (.iconst 1, 1) := by decide +kernel
theorem d_To_make_47 : decode b_To_make 47 = .ok (.iadd, 1) := by decide +kernel
theorem d_To_make_48 : decode b_To_make 48 = .ok (.putfield 29, 3) := by decide +kernel
theorem d_To_make_51 : decode b_To_make 51 = .ok (.aload_n 0, 1) := by decide +kernel
theorem d_To_make_52 : decode b_To_make 52 = .ok (.getfield 12, 3) := by decide +kernel
theorem d_To_make_55 : decode b_To_make 55 = .ok (.invokevirtual 53, 3) := by decide +kernel
theorem d_To_make_58 : decode b_To_make 58 = .ok (.iload_n 1, 1) := by decide +kernel
theorem d_To_make_59 : decode b_To_make 59 = .ok (.ireturn, 1) := by decide +kernel
theorem d_To_size_0 : decode b_To_size 0 = .ok (.aload_n 0, 1) := by decide +kernel
theorem d_To_size_1 : decode b_To_size 1 = .ok (.iload_n 1, 1) := by decide +kernel
theorem d_To_size_2 : decode b_To_size 2 = .ok (.invokevirtual 60, 3) := by decide +kernel
theorem d_To_size_5 : decode b_To_size 5 = .ok (.astore_n 2, 1) := by decide +kernel
theorem d_To_size_6 : decode b_To_size 6 = .ok (.aload_n 2, 1) := by decide +kernel
theorem d_To_size_7 : decode b_To_size 7 = .ok (.ifnonnull 7, 3) := by decide +kernel
theorem d_To_size_10 : decode b_To_size 10 = .ok (.iconst (-1), 1) := by decide +kernel
theorem d_To_size_11 : decode b_To_size 11 = .ok (.goto 8, 3) := by decide +kernel
theorem d_To_size_14 : decode b_To_size 14 = .ok (.aload_n 2, 1) := by decide +kernel
theorem d_To_size_15 : decode b_To_size 15 = .ok (.getfield 64, 3) := by decide +kernel
theorem d_To_size_18 : decode b_To_size 18 = .ok (.arraylength, 1) := by decide +kernel
theorem d_To_size_19 : decode b_To_size 19 = .ok (.ireturn, 1) := by decide +kernel
theorem d_To_isDeterministic_0 : decode b_To_isDeterministic 0 = .ok (.aload_n 0, 1) := by decide +kernel
theorem d_To_isDeterministic_1 : decode b_To_isDeterministic 1 = .ok (.iload_n 1, 1) := by decide +kernel
theorem d_To_isDeterministic_2 : decode b_To_isDeterministic 2 = .ok (.invokevirtual 60, 3) := by decide +kernel
theorem d_To_isDeterministic_5 : decode b_To_isDeterministic 5 = .ok (.astore_n 2, 1) := by decide +kernel
theorem d_To_isDeterministic_6 : decode b_To_isDeterministic 6 = .ok (.aload_n 2, 1) := by decide +kernel
theorem d_To_isDeterministic_7 : decode b_To_isDeterministic 7 = .ok (.ifnull 14, 3) := by decide +kernel
theorem d_To_isDeterministic_10 : decode b_To_isDeterministic 10 = .ok (.aload_n 2, 1) := by decide +kernel
theorem d_To_isDeterministic_11 : decode b_To_isDeterministic 11 = .ok (.getfield 68, 3) := by decide +kernel
theorem d_To_isDeterministic_14 : decode b_To_isDeterministic 14 = .ok (.ifCond .eq 7, 3) := by decide +kernel
theorem d_To_isDeterministic_17 : decode b_To_isDeterministic 17 = .ok (.iconst 1, 1) := by decide +kernel
theorem d_To_isDeterministic_18 : decode b_To_isDeterministic 18 = .ok (.goto 4, 3) := by decide +kernel
theorem d_To_isDeterministic_21 : decode b_To_isDeterministic 21 = .ok (.iconst 0, 1) := by decide +kernel
theorem d_To_isDeterministic_22 : decode b_To_isDeterministic 22 = .ok (.ireturn, 1) := by decide +kernel
theorem d_To_begin_0 : decode b_To_begin 0 = .ok (.aload_n 0, 1) := by decide +kernel
theorem d_To_begin_1 : decode b_To_begin 1 = .ok (.iload_n 1, 1) := by decide +kernel
theorem d_To_begin_2 : decode b_To_begin 2 = .ok (.invokevirtual 60, 3) := by decide +kernel
theorem d_To_begin_5 : decode b_To_begin 5 = .ok (.astore_n 2, 1) := by decide +kernel
theorem d_To_begin_6 : decode b_To_begin 6 = .ok (.aload_n 2, 1) := by decide +kernel
theorem d_To_begin_7 : decode b_To_begin 7 = .ok (.ifnonnull 5, 3) := by decide +kernel
theorem d_To_begin_10 : decode b_To_begin 10 = .ok (.iconst 0, 1) := by decide +kernel
theorem d_To_begin_11 : decode b_To_begin 11 = .ok (.ireturn, 1) := by decide +kernel
theorem d_To_begin_12 : decode b_To_begin 12 = .ok (.aload_n 0, 1) := by decide +kernel
theorem d_To_begin_13 : decode b_To_begin 13 = .ok (.getfield 25, 3) := by decide +kernel
theorem d_To_begin_16 : decode b_To_begin 16 = .ok (.aload_n 2, 1) := by decide +kernel
theorem d_To_begin_17 : decode b_To_begin 17 = .ok (.invokevirtual 72, 3) := by decide +kernel
theorem d_To_begin_20 : decode b_To_begin 20 = .ok (.iconst 1, 1) := by decide +kernel
theorem d_To_begin_21 : decode b_To_begin 21 = .ok (.ireturn, 1) := by decide +kernel
theorem d_To_read_0 : decode b_To_read 0 = .ok (.iload_n 1, 1) := by decide +kernel
theorem d_To_read_1 : decode b_To_read 1 = .ok (.invokestatic 33, 3) := by decide +kernel
theorem d_To_read_4 : decode b_To_read 4 = .ok (.ifCond .eq 24, 3) := by decide +kernel
theorem d_To_read_7 : decode b_To_read 7 = .ok (.aload_n 0, 1) := by decide +kernel
theorem d_To_read_8 : decode b_To_read 8 = .ok (.getfield 25, 3) := by decide +kernel
theorem d_To_read_11 : decode b_To_read 11 = .ok (.iload_n 1, 1) := by decide +kernel
theorem d_To_read_12 : decode b_To_read 12 = .ok (.invokevirtual 76, 3) := by decide +kernel
theorem d_To_read_15 : decode b_To_read 15 = .ok (.ifCond .eq 13, 3) := by decide +kernel
theorem d_To_read_18 : decode b_To_read 18 = .ok (.aload_n 0, 1) := by decide +kernel
theorem d_To_read_19 : decode b_To_read 19 = .ok (.getfield 25, 3) := by decide +kernel
theorem d_To_read_22 : decode b_To_read 22 = .ok (.getfield 79, 3) := by decide +kernel
theorem d_To_read_25 : decode b_To_read 25 = .ok (.goto 4, 3) := by decide +kernel
theorem d_To_read_28 : decode b_To_read 28 = .ok (.iconst (-1), 1) := by decide +kernel
theorem d_To_read_29 : decode b_To_read 29 = .ok (.ireturn, 1) := by decide +kernel
theorem d_To_isWhole_0 : decode b_To_isWhole 0 = .ok (.aload_n 0, 1) := by decide +kernel
theorem d_To_isWhole_1 : decode b_To_isWhole 1 = .ok (.getfield 25, 3) := by decide +kernel
theorem d_To_isWhole_4 : decode b_To_isWhole 4 = .ok (.invokevirtual 82, 3) := by decide +kernel
theorem d_To_isWhole_7 : decode b_To_isWhole 7 = .ok (.ireturn, 1) := by decide +kernel
theorem d_To_can_0 : decode b_To_can 0 = .ok (.aload_n 0, 1) := by decide +kernel
theorem d_To_can_1 : decode b_To_can 1 = .ok (.getfield 25, 3) := by decide +kernel
theorem d_To_can_4 : decode b_To_can 4 = .ok (.iload_n 1, 1) := by decide +kernel
theorem d_To_can_5 : decode b_To_can 5 = .ok (.invokevirtual 85, 3) := by decide +kernel
theorem d_To_can_8 : decode b_To_can 8 = .ok (.ireturn, 1) := by decide +kernel
theorem d_To_next_0 : decode b_To_next 0 = .ok (.aload_n 0, 1) := by decide +kernel
theorem d_To_next_1 : decode b_To_next 1 = .ok (.getfield 25, 3) := by decide +kernel
theorem d_To_next_4 : decode b_To_next 4 = .ok (.iload_n 1, 1) := by decide +kernel
theorem d_To_next_5 : decode b_To_next 5 = .ok (.invokevirtual 88, 3) := by decide +kernel
theorem d_To_next_8 : decode b_To_next 8 = .ok (.ireturn, 1) := by decide +kernel
theorem d_To_back_0 : decode b_To_back 0 = .ok (.aload_n 0, 1) := by decide +kernel
theorem d_To_back_1 : decode b_To_back 1 = .ok (.getfield 25, 3) := by decide +kernel
theorem d_To_back_4 : decode b_To_back 4 = .ok (.invokevirtual 92, 3) := by decide +kernel
theorem d_To_back_7 : decode b_To_back 7 = .ok (.ireturn, 1) := by decide +kernel
theorem d_To_isName_0 : decode b_To_isName 0 = .ok (.iload_n 0, 1) := by decide +kernel
theorem d_To_isName_1 : decode b_To_isName 1 = .ok (.iconst 1, 1) := by decide +kernel
theorem d_To_isName_2 : decode b_To_isName 2 = .ok (.if_icmp .lt 14, 3) := by decide +kernel
theorem d_To_isName_5 : decode b_To_isName 5 = .ok (.iload_n 0, 1) := by decide +kernel
theorem d_To_isName_6 : decode b_To_isName 6 = .ok (.sipush 1000, 3) := by decide +kernel
theorem d_To_isName_9 : decode b_To_isName 9 = .ok (.if_icmp .gt 7, 3) := by decide +kernel
theorem d_To_isName_12 : decode b_To_isName 12 = .ok (.iconst 1, 1) := by decide +kernel
theorem d_To_isName_13 : decode b_To_isName 13 = .ok (.goto 4, 3) := by decide +kernel
theorem d_To_isName_16 : decode b_To_isName 16 = .ok (.iconst 0, 1) := by decide +kernel
theorem d_To_isName_17 : decode b_To_isName 17 = .ok (.ireturn, 1) := by decide +kernel
theorem d_To_modelAt_0 : decode b_To_modelAt 0 = .ok (.iload_n 1, 1) := by decide +kernel
theorem d_To_modelAt_1 : decode b_To_modelAt 1 = .ok (.ifCond .lt 29, 3) := by decide +kernel
theorem d_To_modelAt_4 : decode b_To_modelAt 4 = .ok (.iload_n 1, 1) := by decide +kernel
theorem d_To_modelAt_5 : decode b_To_modelAt 5 = .ok (.aload_n 0, 1) := by decide +kernel
theorem d_To_modelAt_6 : decode b_To_modelAt 6 = .ok (.getfield 29, 3) := by decide +kernel
theorem d_To_modelAt_9 : decode b_To_modelAt 9 = .ok (.if_icmp .ge 21, 3) := by decide +kernel
theorem d_To_modelAt_12 : decode b_To_modelAt 12 = .ok (.iload_n 1, 1) := by decide +kernel
theorem d_To_modelAt_13 : decode b_To_modelAt 13 = .ok (.aload_n 0, 1) := by decide +kernel
theorem d_To_modelAt_14 : decode b_To_modelAt 14 = .ok (.getfield 18, 3) := by decide +kernel
theorem d_To_modelAt_17 : decode b_To_modelAt 17 = .ok (.arraylength, 1) := by decide +kernel
theorem d_To_modelAt_18 : decode b_To_modelAt 18 = .ok (.if_icmp .ge 12, 3) := by decide +kernel
theorem d_To_modelAt_21 : decode b_To_modelAt 21 = .ok (.aload_n 0, 1) := by decide +kernel
theorem d_To_modelAt_22 : decode b_To_modelAt 22 = .ok (.getfield 18, 3) := by decide +kernel
theorem d_To_modelAt_25 : decode b_To_modelAt 25 = .ok (.iload_n 1, 1) := by decide +kernel
theorem d_To_modelAt_26 : decode b_To_modelAt 26 = .ok (.aaload, 1) := by decide +kernel
theorem d_To_modelAt_27 : decode b_To_modelAt 27 = .ok (.goto 4, 3) := by decide +kernel
theorem d_To_modelAt_30 : decode b_To_modelAt 30 = .ok (.aconst_null, 1) := by decide +kernel
theorem d_To_modelAt_31 : decode b_To_modelAt 31 = .ok (.areturn, 1) := by decide +kernel
theorem d_Dr_init_0 : decode b_Dr_init 0 = .ok (.aload_n 0, 1) := by decide +kernel
theorem d_Dr_init_1 : decode b_Dr_init 1 = .ok (.invokespecial 3, 3) := by decide +kernel
theorem d_Dr_init_4 : decode b_Dr_init 4 = .ok (.aload_n 0, 1) := by decide +kernel
theorem d_Dr_init_5 : decode b_Dr_init 5 = .ok (.sipush 255, 3) := by decide +kernel
theorem d_Dr_init_8 : decode b_Dr_init 8 = .ok (.newarray .int, 2) := by decide +kernel
theorem d_Dr_init_10 : decode b_Dr_init 10 = .ok (.putfield 9, 3) := by decide +kernel
theorem d_Dr_init_13 : decode b_Dr_init 13 = .ok (.aload_n 0, 1) := by decide +kernel
theorem d_Dr_init_14 : decode b_Dr_init 14 = .ok (.new 15, 3) := by decide +kernel
theorem d_Dr_init_17 : decode b_Dr_init 17 = .ok (.dup, 1) := by decide +kernel
theorem d_Dr_init_18 : decode b_Dr_init 18 = .ok (.sipush 255, 3) := by decide +kernel
theorem d_Dr_init_21 : decode b_Dr_init 21 = .ok (.invokespecial 17, 3) := by decide +kernel
theorem d_Dr_init_24 : decode b_Dr_init 24 = .ok (.putfield 20, 3) := by decide +kernel
theorem d_Dr_init_27 : decode b_Dr_init 27 = .ok (.aload_n 0, 1) := by decide +kernel
theorem d_Dr_init_28 : decode b_Dr_init 28 = .ok (.new 15, 3) := by decide +kernel
theorem d_Dr_init_31 : decode b_Dr_init 31 = .ok (.dup, 1) := by decide +kernel
theorem d_Dr_init_32 : decode b_Dr_init 32 = .ok (.bipush 40, 2) := by decide +kernel
theorem d_Dr_init_34 : decode b_Dr_init 34 = .ok (.invokespecial 17, 3) := by decide +kernel
theorem d_Dr_init_37 : decode b_Dr_init 37 = .ok (.putfield 24, 3) := by decide +kernel
theorem d_Dr_init_40 : decode b_Dr_init 40 = .ok (.aload_n 0, 1) := by decide +kernel
theorem d_Dr_init_41 : decode b_Dr_init 41 = .ok (.new 15, 3) := by decide +kernel
theorem d_Dr_init_44 : decode b_Dr_init 44 = .ok (.dup, 1) := by decide +kernel
theorem d_Dr_init_45 : decode b_Dr_init 45 = .ok (.bipush 40, 2) := by decide +kernel
theorem d_Dr_init_47 : decode b_Dr_init 47 = .ok (.invokespecial 17, 3) := by decide +kernel
theorem d_Dr_init_50 : decode b_Dr_init 50 = .ok (.putfield 27, 3) := by decide +kernel
theorem d_Dr_init_53 : decode b_Dr_init 53 = .ok (.aload_n 0, 1) := by decide +kernel
theorem d_Dr_init_54 : decode b_Dr_init 54 = .ok (.bipush 40, 2) := by decide +kernel
theorem d_Dr_init_56 : decode b_Dr_init 56 = .ok (.newarray .boolean, 2) := by decide +kernel
theorem d_Dr_init_58 : decode b_Dr_init 58 = .ok (.putfield 30, 3) := by decide +kernel
theorem d_Dr_init_61 : decode b_Dr_init 61 = .ok (.return_, 1) := by decide +kernel
theorem d_Dr_hasPart_0 : decode b_Dr_hasPart 0 = .ok (.iload_n 1, 1) := by decide +kernel
theorem d_Dr_hasPart_1 : decode b_Dr_hasPart 1 = .ok (.ifCond .lt 24, 3) := by decide +kernel
theorem d_Dr_hasPart_4 : decode b_Dr_hasPart 4 = .ok (.iload_n 1, 1) := by decide +kernel
theorem d_Dr_hasPart_5 : decode b_Dr_hasPart 5 = .ok (.aload_n 0, 1) := by decide +kernel
theorem d_Dr_hasPart_6 : decode b_Dr_hasPart 6 = .ok (.getfield 34, 3) := by decide +kernel
theorem d_Dr_hasPart_9 : decode b_Dr_hasPart 9 = .ok (.if_icmp .ge 16, 3) := by decide +kernel
theorem d_Dr_hasPart_12 : decode b_Dr_hasPart 12 = .ok (.iload_n 1, 1) := by decide +kernel
theorem d_Dr_hasPart_13 : decode b_Dr_hasPart 13 = .ok (.aload_n 0, 1) := by decide +kernel
theorem d_Dr_hasPart_14 : decode b_Dr_hasPart 14 = .ok (.getfield 30, 3) := by decide +kernel
theorem d_Dr_hasPart_17 : decode b_Dr_hasPart 17 = .ok (.arraylength, 1) := by decide +kernel
theorem d_Dr_hasPart_18 : decode b_Dr_hasPart 18 = .ok (.if_icmp .ge 7, 3) := by decide +kernel
theorem d_Dr_hasPart_21 : decode b_Dr_hasPart 21 = .ok (.iconst 1, 1) := by decide +kernel
theorem d_Dr_hasPart_22 : decode b_Dr_hasPart 22 = .ok (.goto 4, 3) := by decide +kernel
theorem d_Dr_hasPart_25 : decode b_Dr_hasPart 25 = .ok (.iconst 0, 1) := by decide +kernel
theorem d_Dr_hasPart_26 : decode b_Dr_hasPart 26 = .ok (.ireturn, 1) := by decide +kernel
theorem d_Dr_addName_0 : decode b_Dr_addName 0 = .ok (.aload_n 0, 1) := by decide +kernel
theorem d_Dr_addName_1 : decode b_Dr_addName 1 = .ok (.getfield 38, 3) := by decide +kernel
theorem d_Dr_addName_4 : decode b_Dr_addName 4 = .ok (.istore_n 2, 1) := by decide +kernel
theorem d_Dr_addName_5 : decode b_Dr_addName 5 = .ok (.aload_n 0, 1) := by decide +kernel
theorem d_Dr_addName_6 : decode b_Dr_addName 6 = .ok (.getfield 34, 3) := by decide +kernel
theorem d_Dr_addName_9 : decode b_Dr_addName 9 = .ok (.istore_n 3, 1) := by decide +kernel
theorem d_Dr_addName_10 : decode b_Dr_addName 10 = .ok (.iload_n 3, 1) := by decide +kernel
theorem d_Dr_addName_11 : decode b_Dr_addName 11 = .ok (.ifCond .lt 25, 3) := by decide +kernel
theorem d_Dr_addName_14 : decode b_Dr_addName 14 = .ok (.iload_n 3, 1) := by decide +kernel
theorem d_Dr_addName_15 : decode b_Dr_addName 15 = .ok (.aload_n 0, 1) := by decide +kernel
theorem d_Dr_addName_16 : decode b_Dr_addName 16 = .ok (.getfield 30, 3) := by decide +kernel
theorem d_Dr_addName_19 : decode b_Dr_addName 19 = .ok (.arraylength, 1) := by decide +kernel
theorem d_Dr_addName_20 : decode b_Dr_addName 20 = .ok (.if_icmp .ge 16, 3) := by decide +kernel
theorem d_Dr_addName_23 : decode b_Dr_addName 23 = .ok (.iload_n 2, 1) := by decide +kernel
theorem d_Dr_addName_24 : decode b_Dr_addName 24 = .ok (.ifCond .lt 12, 3) := by decide +kernel
theorem d_Dr_addName_27 : decode b_Dr_addName 27 = .ok (.iload_n 2, 1) := by decide +kernel
theorem d_Dr_addName_28 : decode b_Dr_addName 28 = .ok (.aload_n 0, 1) := by decide +kernel
theorem d_Dr_addName_29 : decode b_Dr_addName 29 = .ok (.getfield 9, 3) := by decide +kernel
theorem d_Dr_addName_32 : decode b_Dr_addName 32 = .ok (.arraylength, 1) := by decide +kernel
theorem d_Dr_addName_33 : decode b_Dr_addName 33 = .ok (.if_icmp .lt 5, 3) := by decide +kernel
theorem d_Dr_addName_36 : decode b_Dr_addName 36 = .ok (.iconst 0, 1) := by decide +kernel
theorem d_Dr_addName_37 : decode b_Dr_addName 37 = .ok (.ireturn, 1) := by decide +kernel
theorem d_Dr_addName_38 : decode b_Dr_addName 38 = .ok (.aload_n 0, 1) := by decide +kernel
theorem d_Dr_addName_39 : decode b_Dr_addName 39 = .ok (.getfield 9, 3) := by decide +kernel
theorem d_Dr_addName_42 : decode b_Dr_addName 42 = .ok (.iload_n 2, 1) := by decide +kernel
theorem d_Dr_addName_43 : decode b_Dr_addName 43 = .ok (.iload_n 1, 1) := by decide +kernel
theorem d_Dr_addName_44 : decode b_Dr_addName 44 = .ok (.iastore, 1) := by decide +kernel
theorem d_Dr_addName_45 : decode b_Dr_addName 45 = .ok (.aload_n 0, 1) := by decide +kernel
theorem d_Dr_addName_46 : decode b_Dr_addName 46 = .ok (.getfield 20, 3) := by decide +kernel
theorem d_Dr_addName_49 : decode b_Dr_addName 49 = .ok (.iload_n 2, 1) := by decide +kernel
theorem d_Dr_addName_50 : decode b_Dr_addName 50 = .ok (.invokevirtual 41, 3) := by decide +kernel
theorem d_Dr_addName_53 : decode b_Dr_addName 53 = .ok (.aload_n 0, 1) := by decide +kernel
theorem d_Dr_addName_54 : decode b_Dr_addName 54 = .ok (.getfield 24, 3) := by decide +kernel
theorem d_Dr_addName_57 : decode b_Dr_addName 57 = .ok (.iload_n 3, 1) := by decide +kernel
theorem d_Dr_addName_58 : decode b_Dr_addName 58 = .ok (.invokevirtual 41, 3) := by decide +kernel
theorem d_Dr_addName_61 : decode b_Dr_addName 61 = .ok (.aload_n 0, 1) := by decide +kernel
theorem d_Dr_addName_62 : decode b_Dr_addName 62 = .ok (.getfield 24, 3) := by decide +kernel
theorem d_Dr_addName_65 : decode b_Dr_addName 65 = .ok (.iload_n 3, 1) := by decide +kernel
theorem d_Dr_addName_66 : decode b_Dr_addName 66 = .ok (.iload_n 2, 1) := by decide +kernel
theorem d_Dr_addName_67 : decode b_Dr_addName 67 = .ok (.invokevirtual 44, 3) := by decide +kernel
theorem d_Dr_addName_70 : decode b_Dr_addName 70 = .ok (.aload_n 0, 1) := by decide +kernel
theorem d_Dr_addName_71 : decode b_Dr_addName 71 = .ok (.getfield 27, 3) := by decide +kernel
theorem d_Dr_addName_74 : decode b_Dr_addName 74 = .ok (.iload_n 3, 1) := by decide +kernel
theorem d_Dr_addName_75 : decode b_Dr_addName 75 = .ok (.invokevirtual 41, 3) := by decide +kernel
theorem d_Dr_addName_78 : decode b_Dr_addName 78 = .ok (.aload_n 0, 1) := by decide +kernel
theorem d_Dr_addName_79 : decode b_Dr_addName 79 = .ok (.getfield 27, 3) := by decide +kernel
theorem d_Dr_addName_82 : decode b_Dr_addName 82 = .ok (.iload_n 3, 1) := by decide +kernel
theorem d_Dr_addName_83 : decode b_Dr_addName 83 = .ok (.iload_n 2, 1) := by decide +kernel
theorem d_Dr_addName_84 : decode b_Dr_addName 84 = .ok (.invokevirtual 44, 3) := by decide +kernel
theorem d_Dr_addName_87 : decode b_Dr_addName 87 = .ok (.aload_n 0, 1) := by decide +kernel
theorem d_Dr_addName_88 : decode b_Dr_addName 88 = .ok (.getfield 30, 3) := by decide +kernel
theorem d_Dr_addName_91 : decode b_Dr_addName 91 = .ok (.iload_n 3, 1) := by decide +kernel
theorem d_Dr_addName_92 : decode b_Dr_addName 92 = .ok (.iconst 0, 1) := by decide +kernel
theorem d_Dr_addName_93 : decode b_Dr_addName 93 = .ok (.bastore, 1) := by decide +kernel
theorem d_Dr_addName_94 : decode b_Dr_addName 94 = .ok (.aload_n 0, 1) := by decide +kernel
theorem d_Dr_addName_95 : decode b_Dr_addName 95 = .ok (.iload_n 2, 1) := by decide +kernel
theorem d_Dr_addName_96 : decode b_Dr_addName 96 = .ok (.iconst 1, 1) := by decide +kernel
theorem d_Dr_addName_97 : decode b_Dr_addName 97 = .ok (.iadd, 1) := by decide +kernel
theorem d_Dr_addName_98 : decode b_Dr_addName 98 = .ok (.putfield 38, 3) := by decide +kernel
theorem d_Dr_addName_101 : decode b_Dr_addName 101 = .ok (.aload_n 0, 1) := by decide +kernel
theorem d_Dr_addName_102 : decode b_Dr_addName 102 = .ok (.iload_n 3, 1) := by decide +kernel
theorem d_Dr_addName_103 : decode b_Dr_addName 103 = .ok (.iconst 1, 1) := by decide +kernel
theorem d_Dr_addName_104 : decode b_Dr_addName 104 = .ok (.iadd, 1) := by decide +kernel
theorem d_Dr_addName_105 : decode b_Dr_addName 105 = .ok (.putfield 34, 3) := by decide +kernel
theorem d_Dr_addName_108 : decode b_Dr_addName 108 = .ok (.iconst 1, 1) := by decide +kernel
theorem d_Dr_addName_109 : decode b_Dr_addName 109 = .ok (.ireturn, 1) := by decide +kernel
theorem d_Dr_joinToRow_0 : decode b_Dr_joinToRow 0 = .ok (.aload_n 0, 1) := by decide +kernel
theorem d_Dr_joinToRow_1 : decode b_Dr_joinToRow 1 = .ok (.getfield 34, 3) := by decide +kernel
theorem d_Dr_joinToRow_4 : decode b_Dr_joinToRow 4 = .ok (.iconst 1, 1) := by decide +kernel
theorem d_Dr_joinToRow_5 : decode b_Dr_joinToRow 5 = .ok (.isub, 1) := by decide +kernel
theorem d_Dr_joinToRow_6 : decode b_Dr_joinToRow 6 = .ok (.istore_n 1, 1) := by decide +kernel
theorem d_Dr_joinToRow_7 : decode b_Dr_joinToRow 7 = .ok (.iload_n 1, 1) := by decide +kernel
theorem d_Dr_joinToRow_8 : decode b_Dr_joinToRow 8 = .ok (.iconst 1, 1) := by decide +kernel
theorem d_Dr_joinToRow_9 : decode b_Dr_joinToRow 9 = .ok (.isub, 1) := by decide +kernel
theorem d_Dr_joinToRow_10 : decode b_Dr_joinToRow 10 = .ok (.istore_n 2, 1) := by decide +kernel
theorem d_Dr_joinToRow_11 : decode b_Dr_joinToRow 11 = .ok (.aload_n 0, 1) := by decide +kernel
theorem d_Dr_joinToRow_12 : decode b_Dr_joinToRow 12 = .ok (.iload_n 2, 1) := by decide +kernel
theorem d_Dr_joinToRow_13 : decode b_Dr_joinToRow 13 = .ok (.invokevirtual 48, 3) := by decide +kernel
theorem d_Dr_joinToRow_16 : decode b_Dr_joinToRow 16 = .ok (.ifCond .eq 11, 3) := by decide +kernel
theorem d_Dr_joinToRow_19 : decode b_Dr_joinToRow 19 = .ok (.aload_n 0, 1) := by decide +kernel
theorem d_Dr_joinToRow_20 : decode b_Dr_joinToRow 20 = .ok (.iload_n 1, 1) := by decide +kernel
theorem d_Dr_joinToRow_21 : decode b_Dr_joinToRow 21 = .ok (.invokevirtual 48, 3) := by decide +kernel
theorem d_Dr_joinToRow_24 : decode b_Dr_joinToRow 24 = .ok (.ifCond .ne 5, 3) := by decide +kernel
theorem d_Dr_joinToRow_27 : decode b_Dr_joinToRow 27 = .ok (.iconst 0, 1) := by decide +kernel
theorem d_Dr_joinToRow_28 : decode b_Dr_joinToRow 28 = .ok (.ireturn, 1) := by decide +kernel
theorem d_Dr_joinToRow_29 : decode b_Dr_joinToRow 29 = .ok (.aload_n 0, 1) := by decide +kernel
theorem d_Dr_joinToRow_30 : decode b_Dr_joinToRow 30 = .ok (.iload_n 2, 1) := by decide +kernel
theorem d_Dr_joinToRow_31 : decode b_Dr_joinToRow 31 = .ok (.iload_n 1, 1) := by decide +kernel
theorem d_Dr_joinToRow_32 : decode b_Dr_joinToRow 32 = .ok (.invokevirtual 52, 3) := by decide +kernel
theorem d_Dr_joinToRow_35 : decode b_Dr_joinToRow 35 = .ok (.aload_n 0, 1) := by decide +kernel
theorem d_Dr_joinToRow_36 : decode b_Dr_joinToRow 36 = .ok (.getfield 30, 3) := by decide +kernel
theorem d_Dr_joinToRow_39 : decode b_Dr_joinToRow 39 = .ok (.iload_n 2, 1) := by decide +kernel
theorem d_Dr_joinToRow_40 : decode b_Dr_joinToRow 40 = .ok (.baload, 1) := by decide +kernel
theorem d_Dr_joinToRow_41 : decode b_Dr_joinToRow 41 = .ok (.ifCond .eq 16, 3) := by decide +kernel
theorem d_Dr_joinToRow_44 : decode b_Dr_joinToRow 44 = .ok (.aload_n 0, 1) := by decide +kernel
theorem d_Dr_joinToRow_45 : decode b_Dr_joinToRow 45 = .ok (.getfield 24, 3) := by decide +kernel
theorem d_Dr_joinToRow_48 : decode b_Dr_joinToRow 48 = .ok (.iload_n 2, 1) := by decide +kernel
theorem d_Dr_joinToRow_49 : decode b_Dr_joinToRow 49 = .ok (.aload_n 0, 1) := by decide +kernel
theorem d_Dr_joinToRow_50 : decode b_Dr_joinToRow 50 = .ok (.getfield 24, 3) := by decide +kernel
theorem d_Dr_joinToRow_53 : decode b_Dr_joinToRow 53 = .ok (.iload_n 1, 1) := by decide +kernel
theorem d_Dr_joinToRow_54 : decode b_Dr_joinToRow 54 = .ok (.invokevirtual 55, 3) := by decide +kernel
theorem d_Dr_joinToRow_57 : decode b_Dr_joinToRow 57 = .ok (.aload_n 0, 1) := by decide +kernel
theorem d_Dr_joinToRow_58 : decode b_Dr_joinToRow 58 = .ok (.getfield 30, 3) := by decide +kernel
theorem d_Dr_joinToRow_61 : decode b_Dr_joinToRow 61 = .ok (.iload_n 1, 1) := by decide +kernel
theorem d_Dr_joinToRow_62 : decode b_Dr_joinToRow 62 = .ok (.baload, 1) := by decide +kernel
theorem d_Dr_joinToRow_63 : decode b_Dr_joinToRow 63 = .ok (.ifCond .ne 11, 3) := by decide +kernel
theorem d_Dr_joinToRow_66 : decode b_Dr_joinToRow 66 = .ok (.aload_n 0, 1) := by decide +kernel
theorem d_Dr_joinToRow_67 : decode b_Dr_joinToRow 67 = .ok (.getfield 27, 3) := by decide +kernel
theorem d_Dr_joinToRow_70 : decode b_Dr_joinToRow 70 = .ok (.iload_n 2, 1) := by decide +kernel
theorem d_Dr_joinToRow_71 : decode b_Dr_joinToRow 71 = .ok (.invokevirtual 41, 3) := by decide +kernel
theorem d_Dr_joinToRow_74 : decode b_Dr_joinToRow 74 = .ok (.aload_n 0, 1) := by decide +kernel
theorem d_Dr_joinToRow_75 : decode b_Dr_joinToRow 75 = .ok (.getfield 27, 3) := by decide +kernel
theorem d_Dr_joinToRow_78 : decode b_Dr_joinToRow 78 = .ok (.iload_n 2, 1) := by decide +kernel
theorem d_Dr_joinToRow_79 : decode b_Dr_joinToRow 79 = .ok (.aload_n 0, 1) := by decide +kernel
theorem d_Dr_joinToRow_80 : decode b_Dr_joinToRow 80 = .ok (.getfield 27, 3) := by decide +kernel
theorem d_Dr_joinToRow_83 : decode b_Dr_joinToRow 83 = .ok (.iload_n 1, 1) := by decide +kernel
theorem d_Dr_joinToRow_84 : decode b_Dr_joinToRow 84 = .ok (.invokevirtual 55, 3) := by decide +kernel
theorem d_Dr_joinToRow_87 : decode b_Dr_joinToRow 87 = .ok (.aload_n 0, 1) := by decide +kernel
theorem d_Dr_joinToRow_88 : decode b_Dr_joinToRow 88 = .ok (.getfield 30, 3) := by decide +kernel
theorem d_Dr_joinToRow_91 : decode b_Dr_joinToRow 91 = .ok (.iload_n 2, 1) := by decide +kernel
theorem d_Dr_joinToRow_92 : decode b_Dr_joinToRow 92 = .ok (.aload_n 0, 1) := by decide +kernel
theorem d_Dr_joinToRow_93 : decode b_Dr_joinToRow 93 = .ok (.getfield 30, 3) := by decide +kernel
theorem d_Dr_joinToRow_96 : decode b_Dr_joinToRow 96 = .ok (.iload_n 2, 1) := by decide +kernel
theorem d_Dr_joinToRow_97 : decode b_Dr_joinToRow 97 = .ok (.baload, 1) := by decide +kernel
theorem d_Dr_joinToRow_98 : decode b_Dr_joinToRow 98 = .ok (.ifCond .eq 16, 3) := by decide +kernel
theorem d_Dr_joinToRow_101 : decode b_Dr_joinToRow 101 = .ok (.aload_n 0, 1) := by decide +kernel
theorem d_Dr_joinToRow_102 : decode b_Dr_joinToRow 102 = .ok (.getfield 30, 3) := by decide +kernel
theorem d_Dr_joinToRow_105 : decode b_Dr_joinToRow 105 = .ok (.iload_n 1, 1) := by decide +kernel
theorem d_Dr_joinToRow_106 : decode b_Dr_joinToRow 106 = .ok (.baload, 1) := by decide +kernel
theorem d_Dr_joinToRow_107 : decode b_Dr_joinToRow 107 = .ok (.ifCond .eq 7, 3) := by decide +kernel
theorem d_Dr_joinToRow_110 : decode b_Dr_joinToRow 110 = .ok (.iconst 1, 1) := by decide +kernel
theorem d_Dr_joinToRow_111 : decode b_Dr_joinToRow 111 = .ok (.goto 4, 3) := by decide +kernel
theorem d_Dr_joinToRow_114 : decode b_Dr_joinToRow 114 = .ok (.iconst 0, 1) := by decide +kernel
theorem d_Dr_joinToRow_115 : decode b_Dr_joinToRow 115 = .ok (.bastore, 1) := by decide +kernel
theorem d_Dr_joinToRow_116 : decode b_Dr_joinToRow 116 = .ok (.aload_n 0, 1) := by decide +kernel
theorem d_Dr_joinToRow_117 : decode b_Dr_joinToRow 117 = .ok (.iload_n 1, 1) := by decide +kernel
theorem d_Dr_joinToRow_118 : decode b_Dr_joinToRow 118 = .ok (.putfield 34, 3) := by decide +kernel
theorem d_Dr_joinToRow_121 : decode b_Dr_joinToRow 121 = .ok (.iconst 1, 1) := by decide +kernel
theorem d_Dr_joinToRow_122 : decode b_Dr_joinToRow 122 = .ok (.ireturn, 1) := by decide +kernel
theorem d_Dr_joinToChoice_0 : decode b_Dr_joinToChoice 0 = .ok (.aload_n 0, 1) := by decide +kernel
theorem d_Dr_joinToChoice_1 : decode b_Dr_joinToChoice 1 = .ok (.getfield 34, 3) := by decide +kernel
theorem d_Dr_joinToChoice_4 : decode b_Dr_joinToChoice 4 = .ok (.iconst 1, 1) := by decide +kernel
theorem d_Dr_joinToChoice_5 : decode b_Dr_joinToChoice 5 = .ok (.isub, 1) := by decide +kernel
theorem d_Dr_joinToChoice_6 : decode b_Dr_joinToChoice 6 = .ok (.istore_n 1, 1) := by decide +kernel
theorem d_Dr_joinToChoice_7 : decode b_Dr_joinToChoice 7 = .ok (.iload_n 1, 1) := by decide +kernel
theorem d_Dr_joinToChoice_8 : decode b_Dr_joinToChoice 8 = .ok (.iconst 1, 1) := by decide +kernel
theorem d_Dr_joinToChoice_9 : decode b_Dr_joinToChoice 9 = .ok (.isub, 1) := by decide +kernel
theorem d_Dr_joinToChoice_10 : decode b_Dr_joinToChoice 10 = .ok (.istore_n 2, 1) := by decide +kernel
theorem d_Dr_joinToChoice_11 : decode b_Dr_joinToChoice 11 = .ok (.aload_n 0, 1) := by decide +kernel
theorem d_Dr_joinToChoice_12 : decode b_Dr_joinToChoice 12 = .ok (.iload_n 2, 1) := by decide +kernel
theorem d_Dr_joinToChoice_13 : decode b_Dr_joinToChoice 13 = .ok (.invokevirtual 48, 3) := by decide +kernel
theorem d_Dr_joinToChoice_16 : decode b_Dr_joinToChoice 16 = .ok (.ifCond .eq 11, 3) := by decide +kernel
theorem d_Dr_joinToChoice_19 : decode b_Dr_joinToChoice 19 = .ok (.aload_n 0, 1) := by decide +kernel
theorem d_Dr_joinToChoice_20 : decode b_Dr_joinToChoice 20 = .ok (.iload_n 1, 1) := by decide +kernel
theorem d_Dr_joinToChoice_21 : decode b_Dr_joinToChoice 21 = .ok (.invokevirtual 48, 3) := by decide +kernel
theorem d_Dr_joinToChoice_24 : decode b_Dr_joinToChoice 24 = .ok (.ifCond .ne 5, 3) := by decide +kernel
theorem d_Dr_joinToChoice_27 : decode b_Dr_joinToChoice 27 = .ok (.iconst 0, 1) := by decide +kernel
theorem d_Dr_joinToChoice_28 : decode b_Dr_joinToChoice 28 = .ok (.ireturn, 1) := by decide +kernel
theorem d_Dr_joinToChoice_29 : decode b_Dr_joinToChoice 29 = .ok (.aload_n 0, 1) := by decide +kernel
theorem d_Dr_joinToChoice_30 : decode b_Dr_joinToChoice 30 = .ok (.getfield 24, 3) := by decide +kernel
theorem d_Dr_joinToChoice_33 : decode b_Dr_joinToChoice 33 = .ok (.iload_n 2, 1) := by decide +kernel
theorem d_Dr_joinToChoice_34 : decode b_Dr_joinToChoice 34 = .ok (.aload_n 0, 1) := by decide +kernel
theorem d_Dr_joinToChoice_35 : decode b_Dr_joinToChoice 35 = .ok (.getfield 24, 3) := by decide +kernel
theorem d_Dr_joinToChoice_38 : decode b_Dr_joinToChoice 38 = .ok (.iload_n 1, 1) := by decide +kernel
theorem d_Dr_joinToChoice_39 : decode b_Dr_joinToChoice 39 = .ok (.invokevirtual 55, 3) := by decide +kernel
theorem d_Dr_joinToChoice_42 : decode b_Dr_joinToChoice 42 = .ok (.aload_n 0, 1) := by decide +kernel
theorem d_Dr_joinToChoice_43 : decode b_Dr_joinToChoice 43 = .ok (.getfield 27, 3) := by decide +kernel
theorem d_Dr_joinToChoice_46 : decode b_Dr_joinToChoice 46 = .ok (.iload_n 2, 1) := by decide +kernel
theorem d_Dr_joinToChoice_47 : decode b_Dr_joinToChoice 47 = .ok (.aload_n 0, 1) := by decide +kernel
theorem d_Dr_joinToChoice_48 : decode b_Dr_joinToChoice 48 = .ok (.getfield 27, 3) := by decide +kernel
theorem d_Dr_joinToChoice_51 : decode b_Dr_joinToChoice 51 = .ok (.iload_n 1, 1) := by decide +kernel
theorem d_Dr_joinToChoice_52 : decode b_Dr_joinToChoice 52 = .ok (.invokevirtual 55, 3) := by decide +kernel
theorem d_Dr_joinToChoice_55 : decode b_Dr_joinToChoice 55 = .ok (.aload_n 0, 1) := by decide +kernel
theorem d_Dr_joinToChoice_56 : decode b_Dr_joinToChoice 56 = .ok (.getfield 30, 3) := by decide +kernel
theorem d_Dr_joinToChoice_59 : decode b_Dr_joinToChoice 59 = .ok (.iload_n 2, 1) := by decide +kernel
theorem d_Dr_joinToChoice_60 : decode b_Dr_joinToChoice 60 = .ok (.aload_n 0, 1) := by decide +kernel
theorem d_Dr_joinToChoice_61 : decode b_Dr_joinToChoice 61 = .ok (.getfield 30, 3) := by decide +kernel
theorem d_Dr_joinToChoice_64 : decode b_Dr_joinToChoice 64 = .ok (.iload_n 2, 1) := by decide +kernel
theorem d_Dr_joinToChoice_65 : decode b_Dr_joinToChoice 65 = .ok (.baload, 1) := by decide +kernel
theorem d_Dr_joinToChoice_66 : decode b_Dr_joinToChoice 66 = .ok (.ifCond .ne 12, 3) := by decide +kernel
theorem d_Dr_joinToChoice_69 : decode b_Dr_joinToChoice 69 = .ok (.aload_n 0, 1) := by decide +kernel
theorem d_Dr_joinToChoice_70 : decode b_Dr_joinToChoice 70 = .ok (.getfield 30, 3) := by decide +kernel
theorem d_Dr_joinToChoice_73 : decode b_Dr_joinToChoice 73 = .ok (.iload_n 1, 1) := by decide +kernel
theorem d_Dr_joinToChoice_74 : decode b_Dr_joinToChoice 74 = .ok (.baload, 1) := by decide +kernel
theorem d_Dr_joinToChoice_75 : decode b_Dr_joinToChoice 75 = .ok (.ifCond .eq 7, 3) := by decide +kernel
theorem d_Dr_joinToChoice_78 : decode b_Dr_joinToChoice 78 = .ok (.iconst 1, 1) := by decide +kernel
theorem d_Dr_joinToChoice_79 : decode b_Dr_joinToChoice 79 = .ok (.goto 4, 3) := by decide +kernel
theorem d_Dr_joinToChoice_82 : decode b_Dr_joinToChoice 82 = .ok (.iconst 0, 1) := by decide +kernel
theorem d_Dr_joinToChoice_83 : decode b_Dr_joinToChoice 83 = .ok (.bastore, 1) := by decide +kernel
theorem d_Dr_joinToChoice_84 : decode b_Dr_joinToChoice 84 = .ok (.aload_n 0, 1) := by decide +kernel
theorem d_Dr_joinToChoice_85 : decode b_Dr_joinToChoice 85 = .ok (.iload_n 1, 1) := by decide +kernel
theorem d_Dr_joinToChoice_86 : decode b_Dr_joinToChoice 86 = .ok (.putfield 34, 3) := by decide +kernel
theorem d_Dr_joinToChoice_89 : decode b_Dr_joinToChoice 89 = .ok (.iconst 1, 1) := by decide +kernel
theorem d_Dr_joinToChoice_90 : decode b_Dr_joinToChoice 90 = .ok (.ireturn, 1) := by decide +kernel
theorem d_Dr_repeatLast_0 : decode b_Dr_repeatLast 0 = .ok (.aload_n 0, 1) := by decide +kernel
theorem d_Dr_repeatLast_1 : decode b_Dr_repeatLast 1 = .ok (.getfield 34, 3) := by decide +kernel
theorem d_Dr_repeatLast_4 : decode b_Dr_repeatLast 4 = .ok (.iconst 1, 1) := by decide +kernel
theorem d_Dr_repeatLast_5 : decode b_Dr_repeatLast 5 = .ok (.isub, 1) := by decide +kernel
theorem d_Dr_repeatLast_6 : decode b_Dr_repeatLast 6 = .ok (.istore_n 2, 1) := by decide +kernel
theorem d_Dr_repeatLast_7 : decode b_Dr_repeatLast 7 = .ok (.aload_n 0, 1) := by decide +kernel
theorem d_Dr_repeatLast_8 : decode b_Dr_repeatLast 8 = .ok (.iload_n 2, 1) := by decide +kernel
theorem d_Dr_repeatLast_9 : decode b_Dr_repeatLast 9 = .ok (.invokevirtual 48, 3) := by decide +kernel
theorem d_Dr_repeatLast_12 : decode b_Dr_repeatLast 12 = .ok (.ifCond .eq 13, 3) := by decide +kernel
theorem d_Dr_repeatLast_15 : decode b_Dr_repeatLast 15 = .ok (.iload_n 1, 1) := by decide +kernel
theorem d_Dr_repeatLast_16 : decode b_Dr_repeatLast 16 = .ok (.iconst 1, 1) := by decide +kernel
theorem d_Dr_repeatLast_17 : decode b_Dr_repeatLast 17 = .ok (.if_icmp .lt 8, 3) := by decide +kernel
theorem d_Dr_repeatLast_20 : decode b_Dr_repeatLast 20 = .ok (.iload_n 1, 1) := by decide +kernel
theorem d_Dr_repeatLast_21 : decode b_Dr_repeatLast 21 = .ok (.iconst 3, 1) := by decide +kernel
theorem d_Dr_repeatLast_22 : decode b_Dr_repeatLast 22 = .ok (.if_icmp .le 5, 3) := by decide +kernel
theorem d_Dr_repeatLast_25 : decode b_Dr_repeatLast 25 = .ok (.iconst 0, 1) := by decide +kernel
theorem d_Dr_repeatLast_26 : decode b_Dr_repeatLast 26 = .ok (.ireturn, 1) := by decide +kernel
theorem d_Dr_repeatLast_27 : decode b_Dr_repeatLast 27 = .ok (.iload_n 1, 1) := by decide +kernel
theorem d_Dr_repeatLast_28 : decode b_Dr_repeatLast 28 = .ok (.iconst 2, 1) := by decide +kernel
theorem d_Dr_repeatLast_29 : decode b_Dr_repeatLast 29 = .ok (.if_icmp .eq 8, 3) := by decide +kernel
theorem d_Dr_repeatLast_32 : decode b_Dr_repeatLast 32 = .ok (.iload_n 1, 1) := by decide +kernel
theorem d_Dr_repeatLast_33 : decode b_Dr_repeatLast 33 = .ok (.iconst 3, 1) := by decide +kernel
theorem d_Dr_repeatLast_34 : decode b_Dr_repeatLast 34 = .ok (.if_icmp .ne 9, 3) := by decide +kernel
theorem d_Dr_repeatLast_37 : decode b_Dr_repeatLast 37 = .ok (.aload_n 0, 1) := by decide +kernel
theorem d_Dr_repeatLast_38 : decode b_Dr_repeatLast 38 = .ok (.iload_n 2, 1) := by decide +kernel
theorem d_Dr_repeatLast_39 : decode b_Dr_repeatLast 39 = .ok (.iload_n 2, 1) := by decide +kernel
theorem d_Dr_repeatLast_40 : decode b_Dr_repeatLast 40 = .ok (.invokevirtual 52, 3) := by decide +kernel
theorem d_Dr_repeatLast_43 : decode b_Dr_repeatLast 43 = .ok (.iload_n 1, 1) := by decide +kernel
theorem d_Dr_repeatLast_44 : decode b_Dr_repeatLast 44 = .ok (.iconst 1, 1) := by decide +kernel
theorem d_Dr_repeatLast_45 : decode b_Dr_repeatLast 45 = .ok (.if_icmp .eq 8, 3) := by decide +kernel
theorem d_Dr_repeatLast_48 : decode b_Dr_repeatLast 48 = .ok (.iload_n 1, 1) := by decide +kernel
theorem d_Dr_repeatLast_49 : decode b_Dr_repeatLast 49 = .ok (.iconst 2, 1) := by decide +kernel
theorem d_Dr_repeatLast_50 : decode b_Dr_repeatLast 50 = .ok (.if_icmp .ne 10, 3) := by decide +kernel
theorem d_Dr_repeatLast_53 : decode b_Dr_repeatLast 53 = .ok (.aload_n 0, 1) := by decide +kernel
theorem d_Dr_repeatLast_54 : decode b_Dr_repeatLast 54 = .ok (.getfield 30, 3) := by decide +kernel
theorem d_Dr_repeatLast_57 : decode b_Dr_repeatLast 57 = .ok (.iload_n 2, 1) := by decide +kernel
theorem d_Dr_repeatLast_58 : decode b_Dr_repeatLast 58 = .ok (.iconst 1, 1) := by decide +kernel
theorem d_Dr_repeatLast_59 : decode b_Dr_repeatLast 59 = .ok (.bastore, 1) := by decide +kernel
theorem d_Dr_repeatLast_60 : decode b_Dr_repeatLast 60 = .ok (.iconst 1, 1) := by decide +kernel
theorem d_Dr_repeatLast_61 : decode b_Dr_repeatLast 61 = .ok (.ireturn, 1) := by decide +kernel
theorem d_Dr_letFollow_0 : decode b_Dr_letFollow 0 = .ok (.iconst 0, 1) := by decide +kernel
theorem d_Dr_letFollow_1 : decode b_Dr_letFollow 1 = .ok (.istore_n 3, 1) := by decide +kernel
theorem d_Dr_letFollow_2 : decode b_Dr_letFollow 2 = .ok (.iload_n 3, 1) := by decide +kernel
theorem d_Dr_letFollow_3 : decode b_Dr_letFollow 3 = .ok (.aload_n 0, 1) := by decide +kernel
theorem d_Dr_letFollow_4 : decode b_Dr_letFollow 4 = .ok (.getfield 38, 3) := by decide +kernel
theorem d_Dr_letFollow_7 : decode b_Dr_letFollow 7 = .ok (.if_icmp .ge 34, 3) := by decide +kernel
theorem d_Dr_letFollow_10 : decode b_Dr_letFollow 10 = .ok (.aload_n 0, 1) := by decide +kernel
theorem d_Dr_letFollow_11 : decode b_Dr_letFollow 11 = .ok (.getfield 27, 3) := by decide +kernel
theorem d_Dr_letFollow_14 : decode b_Dr_letFollow 14 = .ok (.iload_n 1, 1) := by decide +kernel
theorem d_Dr_letFollow_15 : decode b_Dr_letFollow 15 = .ok (.iload_n 3, 1) := by decide +kernel
theorem d_Dr_letFollow_16 : decode b_Dr_letFollow 16 = .ok (.invokevirtual 59, 3) := by decide +kernel
theorem d_Dr_letFollow_19 : decode b_Dr_letFollow 19 = .ok (.ifCond .eq 16, 3) := by decide +kernel
theorem d_Dr_letFollow_22 : decode b_Dr_letFollow 22 = .ok (.aload_n 0, 1) := by decide +kernel
theorem d_Dr_letFollow_23 : decode b_Dr_letFollow 23 = .ok (.getfield 20, 3) := by decide +kernel
theorem d_Dr_letFollow_26 : decode b_Dr_letFollow 26 = .ok (.iload_n 3, 1) := by decide +kernel
theorem d_Dr_letFollow_27 : decode b_Dr_letFollow 27 = .ok (.aload_n 0, 1) := by decide +kernel
theorem d_Dr_letFollow_28 : decode b_Dr_letFollow 28 = .ok (.getfield 24, 3) := by decide +kernel
theorem d_Dr_letFollow_31 : decode b_Dr_letFollow 31 = .ok (.iload_n 2, 1) := by decide +kernel
theorem d_Dr_letFollow_32 : decode b_Dr_letFollow 32 = .ok (.invokevirtual 55, 3) := by decide +kernel
theorem d_Dr_letFollow_35 : decode b_Dr_letFollow 35 = .ok (.iinc 3 1, 3) := by decide +kernel
theorem d_Dr_letFollow_38 : decode b_Dr_letFollow 38 = .ok (.goto (-36), 3) := by decide +kernel
theorem d_Dr_letFollow_41 : decode b_Dr_letFollow 41 = .ok (.return_, 1) := by decide +kernel
theorem d_Dr_dropAll_0 : decode b_Dr_dropAll 0 = .ok (.aload_n 0, 1) := by decide +kernel
theorem d_Dr_dropAll_1 : decode b_Dr_dropAll 1 = .ok (.iconst 0, 1) := by decide +kernel
theorem d_Dr_dropAll_2 : decode b_Dr_dropAll 2 = .ok (.putfield 38, 3) := by decide +kernel
theorem d_Dr_dropAll_5 : decode b_Dr_dropAll 5 = .ok (.aload_n 0, 1) := by decide +kernel
theorem d_Dr_dropAll_6 : decode b_Dr_dropAll 6 = .ok (.iconst 0, 1) := by decide +kernel
theorem d_Dr_dropAll_7 : decode b_Dr_dropAll 7 = .ok (.putfield 34, 3) := by decide +kernel
theorem d_Dr_dropAll_10 : decode b_Dr_dropAll 10 = .ok (.return_, 1) := by decide +kernel
theorem d_Dr_toModel_0 : decode b_Dr_toModel 0 = .ok (.aload_n 0, 1) := by decide +kernel
theorem d_Dr_toModel_1 : decode b_Dr_toModel 1 = .ok (.getfield 38, 3) := by decide +kernel
theorem d_Dr_toModel_4 : decode b_Dr_toModel 4 = .ok (.iconst 0, 1) := by decide +kernel
theorem d_Dr_toModel_5 : decode b_Dr_toModel 5 = .ok (.invokestatic 63, 3) := by decide +kernel
theorem d_Dr_toModel_8 : decode b_Dr_toModel 8 = .ok (.newarray .int, 2) := by decide +kernel
theorem d_Dr_toModel_10 : decode b_Dr_toModel 10 = .ok (.astore_n 1, 1) := by decide +kernel
theorem d_Dr_toModel_11 : decode b_Dr_toModel 11 = .ok (.new 15, 3) := by decide +kernel
theorem d_Dr_toModel_14 : decode b_Dr_toModel 14 = .ok (.dup, 1) := by decide +kernel
theorem d_Dr_toModel_15 : decode b_Dr_toModel 15 = .ok (.aload_n 0, 1) := by decide +kernel
theorem d_Dr_toModel_16 : decode b_Dr_toModel 16 = .ok (.getfield 38, 3) := by decide +kernel
theorem d_Dr_toModel_19 : decode b_Dr_toModel 19 = .ok (.iconst 1, 1) := by decide +kernel
theorem d_Dr_toModel_20 : decode b_Dr_toModel 20 = .ok (.iadd, 1) := by decide +kernel
theorem d_Dr_toModel_21 : decode b_Dr_toModel 21 = .ok (.invokespecial 17, 3) := by decide +kernel
theorem d_Dr_toModel_24 : decode b_Dr_toModel 24 = .ok (.astore_n 2, 1) := by decide +kernel
theorem d_Dr_toModel_25 : decode b_Dr_toModel 25 = .ok (.iconst 0, 1) := by decide +kernel
theorem d_Dr_toModel_26 : decode b_Dr_toModel 26 = .ok (.istore_n 3, 1) := by decide +kernel
theorem d_Dr_toModel_27 : decode b_Dr_toModel 27 = .ok (.iload_n 3, 1) := by decide +kernel
theorem d_Dr_toModel_28 : decode b_Dr_toModel 28 = .ok (.aload_n 1, 1) := by decide +kernel
theorem d_Dr_toModel_29 : decode b_Dr_toModel 29 = .ok (.arraylength, 1) := by decide +kernel
theorem d_Dr_toModel_30 : decode b_Dr_toModel 30 = .ok (.if_icmp .ge 61, 3) := by decide +kernel
theorem d_Dr_toModel_33 : decode b_Dr_toModel 33 = .ok (.iload_n 3, 1) := by decide +kernel
theorem d_Dr_toModel_34 : decode b_Dr_toModel 34 = .ok (.aload_n 0, 1) := by decide +kernel
theorem d_Dr_toModel_35 : decode b_Dr_toModel 35 = .ok (.getfield 9, 3) := by decide +kernel
theorem d_Dr_toModel_38 : decode b_Dr_toModel 38 = .ok (.arraylength, 1) := by decide +kernel
theorem d_Dr_toModel_39 : decode b_Dr_toModel 39 = .ok (.if_icmp .ge 52, 3) := by decide +kernel
theorem d_Dr_toModel_42 : decode b_Dr_toModel 42 = .ok (.aload_n 1, 1) := by decide +kernel
theorem d_Dr_toModel_43 : decode b_Dr_toModel 43 = .ok (.iload_n 3, 1) := by decide +kernel
theorem d_Dr_toModel_44 : decode b_Dr_toModel 44 = .ok (.aload_n 0, 1) := by decide +kernel
theorem d_Dr_toModel_45 : decode b_Dr_toModel 45 = .ok (.getfield 9, 3) := by decide +kernel
theorem d_Dr_toModel_48 : decode b_Dr_toModel 48 = .ok (.iload_n 3, 1) := by decide +kernel
theorem d_Dr_toModel_49 : decode b_Dr_toModel 49 = .ok (.iaload, 1) := by decide +kernel
theorem d_Dr_toModel_50 : decode b_Dr_toModel 50 = .ok (.iload_n 3, 1) := by decide +kernel
theorem d_Dr_toModel_51 : decode b_Dr_toModel 51 = .ok (.invokestatic 69, 3) := by decide +kernel
theorem d_Dr_toModel_54 : decode b_Dr_toModel 54 = .ok (.iastore, 1) := by decide +kernel
theorem d_Dr_toModel_55 : decode b_Dr_toModel 55 = .ok (.aload_n 2, 1) := by decide +kernel
theorem d_Dr_toModel_56 : decode b_Dr_toModel 56 = .ok (.iload_n 3, 1) := by decide +kernel
theorem d_Dr_toModel_57 : decode b_Dr_toModel 57 = .ok (.aload_n 0, 1) := by decide +kernel
theorem d_Dr_toModel_58 : decode b_Dr_toModel 58 = .ok (.getfield 20, 3) := by decide +kernel
theorem d_Dr_toModel_61 : decode b_Dr_toModel 61 = .ok (.iload_n 3, 1) := by decide +kernel
theorem d_Dr_toModel_62 : decode b_Dr_toModel 62 = .ok (.invokevirtual 55, 3) := by decide +kernel
theorem d_Dr_toModel_65 : decode b_Dr_toModel 65 = .ok (.aload_n 0, 1) := by decide +kernel
theorem d_Dr_toModel_66 : decode b_Dr_toModel 66 = .ok (.getfield 27, 3) := by decide +kernel
end
section
theorem d_Dr_toModel_69 : decode b_Dr_toModel 69 = .ok (.iconst 0, 1) := by decide +kernel
theorem d_Dr_toModel_70 : decode b_Dr_toModel 70 = .ok (.iload_n 3, 1) := by decide +kernel
theorem d_Dr_toModel_71 : decode b_Dr_toModel 71 = .ok (.invokevirtual 59, 3) := by decide +kernel
theorem d_Dr_toModel_74 : decode b_Dr_toModel 74 = .ok (.ifCond .eq 11, 3) := by decide +kernel
theorem d_Dr_toModel_77 : decode b_Dr_toModel 77 = .ok (.aload_n 2, 1) := by decide +kernel
theorem d_Dr_toModel_78 : decode b_Dr_toModel 78 = .ok (.iload_n 3, 1) := by decide +kernel
theorem d_Dr_toModel_79 : decode b_Dr_toModel 79 = .ok (.sipush 255, 3) := by decide +kernel
theorem d_Dr_toModel_82 : decode b_Dr_toModel 82 = .ok (.invokevirtual 44, 3) := by decide +kernel
theorem d_Dr_toModel_85 : decode b_Dr_toModel 85 = .ok (.iinc 3 1, 3) := by decide +kernel
theorem d_Dr_toModel_88 : decode b_Dr_toModel 88 = .ok (.goto (-61), 3) := by decide +kernel
theorem d_Dr_toModel_91 : decode b_Dr_toModel 91 = .ok (.aload_n 2, 1) := by decide +kernel
theorem d_Dr_toModel_92 : decode b_Dr_toModel 92 = .ok (.aload_n 0, 1) := by decide +kernel
theorem d_Dr_toModel_93 : decode b_Dr_toModel 93 = .ok (.getfield 38, 3) := by decide +kernel
theorem d_Dr_toModel_96 : decode b_Dr_toModel 96 = .ok (.aload_n 0, 1) := by decide +kernel
theorem d_Dr_toModel_97 : decode b_Dr_toModel 97 = .ok (.getfield 24, 3) := by decide +kernel
theorem d_Dr_toModel_100 : decode b_Dr_toModel 100 = .ok (.iconst 0, 1) := by decide +kernel
theorem d_Dr_toModel_101 : decode b_Dr_toModel 101 = .ok (.invokevirtual 55, 3) := by decide +kernel
theorem d_Dr_toModel_104 : decode b_Dr_toModel 104 = .ok (.aload_n 0, 1) := by decide +kernel
theorem d_Dr_toModel_105 : decode b_Dr_toModel 105 = .ok (.getfield 30, 3) := by decide +kernel
theorem d_Dr_toModel_108 : decode b_Dr_toModel 108 = .ok (.iconst 0, 1) := by decide +kernel
theorem d_Dr_toModel_109 : decode b_Dr_toModel 109 = .ok (.baload, 1) := by decide +kernel
theorem d_Dr_toModel_110 : decode b_Dr_toModel 110 = .ok (.ifCond .eq 14, 3) := by decide +kernel
theorem d_Dr_toModel_113 : decode b_Dr_toModel 113 = .ok (.aload_n 2, 1) := by decide +kernel
theorem d_Dr_toModel_114 : decode b_Dr_toModel 114 = .ok (.aload_n 0, 1) := by decide +kernel
theorem d_Dr_toModel_115 : decode b_Dr_toModel 115 = .ok (.getfield 38, 3) := by decide +kernel
theorem d_Dr_toModel_118 : decode b_Dr_toModel 118 = .ok (.sipush 255, 3) := by decide +kernel
theorem d_Dr_toModel_121 : decode b_Dr_toModel 121 = .ok (.invokevirtual 44, 3) := by decide +kernel
theorem d_Dr_toModel_124 : decode b_Dr_toModel 124 = .ok (.aload_n 1, 1) := by decide +kernel
theorem d_Dr_toModel_125 : decode b_Dr_toModel 125 = .ok (.invokestatic 74, 3) := by decide +kernel
theorem d_Dr_toModel_128 : decode b_Dr_toModel 128 = .ok (.new 70, 3) := by decide +kernel
theorem d_Dr_toModel_131 : decode b_Dr_toModel 131 = .ok (.dup, 1) := by decide +kernel
theorem d_Dr_toModel_132 : decode b_Dr_toModel 132 = .ok (.aload_n 1, 1) := by decide +kernel
theorem d_Dr_toModel_133 : decode b_Dr_toModel 133 = .ok (.aload_n 2, 1) := by decide +kernel
theorem d_Dr_toModel_134 : decode b_Dr_toModel 134 = .ok (.invokespecial 78, 3) := by decide +kernel
theorem d_Dr_toModel_137 : decode b_Dr_toModel 137 = .ok (.areturn, 1) := by decide +kernel
theorem d_Mo_init_0 : decode b_Mo_init 0 = .ok (.aload_n 0, 1) := by decide +kernel
theorem d_Mo_init_1 : decode b_Mo_init 1 = .ok (.invokespecial 3, 3) := by decide +kernel
theorem d_Mo_init_4 : decode b_Mo_init 4 = .ok (.aload_n 0, 1) := by decide +kernel
theorem d_Mo_init_5 : decode b_Mo_init 5 = .ok (.aload_n 1, 1) := by decide +kernel
theorem d_Mo_init_6 : decode b_Mo_init 6 = .ok (.putfield 9, 3) := by decide +kernel
theorem d_Mo_init_9 : decode b_Mo_init 9 = .ok (.aload_n 0, 1) := by decide +kernel
theorem d_Mo_init_10 : decode b_Mo_init 10 = .ok (.aload_n 2, 1) := by decide +kernel
theorem d_Mo_init_11 : decode b_Mo_init 11 = .ok (.putfield 15, 3) := by decide +kernel
theorem d_Mo_init_14 : decode b_Mo_init 14 = .ok (.aload_n 0, 1) := by decide +kernel
theorem d_Mo_init_15 : decode b_Mo_init 15 = .ok (.aload_n 1, 1) := by decide +kernel
theorem d_Mo_init_16 : decode b_Mo_init 16 = .ok (.aload_n 2, 1) := by decide +kernel
theorem d_Mo_init_17 : decode b_Mo_init 17 = .ok (.invokestatic 19, 3) := by decide +kernel
theorem d_Mo_init_20 : decode b_Mo_init 20 = .ok (.ifCond .ne 7, 3) := by decide +kernel
theorem d_Mo_init_23 : decode b_Mo_init 23 = .ok (.iconst 1, 1) := by decide +kernel
theorem d_Mo_init_24 : decode b_Mo_init 24 = .ok (.goto 4, 3) := by decide +kernel
theorem d_Mo_init_27 : decode b_Mo_init 27 = .ok (.iconst 0, 1) := by decide +kernel
theorem d_Mo_init_28 : decode b_Mo_init 28 = .ok (.putfield 23, 3) := by decide +kernel
theorem d_Mo_init_31 : decode b_Mo_init 31 = .ok (.return_, 1) := by decide +kernel
theorem d_Mo_entry_0 : decode b_Mo_entry 0 = .ok (.iload_n 0, 1) := by decide +kernel
theorem d_Mo_entry_1 : decode b_Mo_entry 1 = .ok (.bipush 8, 2) := by decide +kernel
theorem d_Mo_entry_3 : decode b_Mo_entry 3 = .ok (.ishl, 1) := by decide +kernel
theorem d_Mo_entry_4 : decode b_Mo_entry 4 = .ok (.iload_n 1, 1) := by decide +kernel
theorem d_Mo_entry_5 : decode b_Mo_entry 5 = .ok (.ior, 1) := by decide +kernel
theorem d_Mo_entry_6 : decode b_Mo_entry 6 = .ok (.ireturn, 1) := by decide +kernel
theorem d_Mo_nameOf_0 : decode b_Mo_nameOf 0 = .ok (.iload_n 0, 1) := by decide +kernel
theorem d_Mo_nameOf_1 : decode b_Mo_nameOf 1 = .ok (.bipush 8, 2) := by decide +kernel
theorem d_Mo_nameOf_3 : decode b_Mo_nameOf 3 = .ok (.ishr, 1) := by decide +kernel
theorem d_Mo_nameOf_4 : decode b_Mo_nameOf 4 = .ok (.ireturn, 1) := by decide +kernel
theorem d_Mo_occurrenceOf_0 : decode b_Mo_occurrenceOf 0 = .ok (.iload_n 0, 1) := by decide +kernel
theorem d_Mo_occurrenceOf_1 : decode b_Mo_occurrenceOf 1 = .ok (.sipush 255, 3) := by decide +kernel
theorem d_Mo_occurrenceOf_4 : decode b_Mo_occurrenceOf 4 = .ok (.iand, 1) := by decide +kernel
theorem d_Mo_occurrenceOf_5 : decode b_Mo_occurrenceOf 5 = .ok (.ireturn, 1) := by decide +kernel
theorem d_Mo_sort_0 : decode b_Mo_sort 0 = .ok (.iconst 1, 1) := by decide +kernel
theorem d_Mo_sort_1 : decode b_Mo_sort 1 = .ok (.istore_n 1, 1) := by decide +kernel
theorem d_Mo_sort_2 : decode b_Mo_sort 2 = .ok (.iload_n 1, 1) := by decide +kernel
theorem d_Mo_sort_3 : decode b_Mo_sort 3 = .ok (.aload_n 0, 1) := by decide +kernel
theorem d_Mo_sort_4 : decode b_Mo_sort 4 = .ok (.arraylength, 1) := by decide +kernel
theorem d_Mo_sort_5 : decode b_Mo_sort 5 = .ok (.if_icmp .ge 46, 3) := by decide +kernel
theorem d_Mo_sort_8 : decode b_Mo_sort 8 = .ok (.aload_n 0, 1) := by decide +kernel
theorem d_Mo_sort_9 : decode b_Mo_sort 9 = .ok (.iload_n 1, 1) := by decide +kernel
theorem d_Mo_sort_10 : decode b_Mo_sort 10 = .ok (.iaload, 1) := by decide +kernel
theorem d_Mo_sort_11 : decode b_Mo_sort 11 = .ok (.istore_n 2, 1) := by decide +kernel
theorem d_Mo_sort_12 : decode b_Mo_sort 12 = .ok (.iload_n 1, 1) := by decide +kernel
theorem d_Mo_sort_13 : decode b_Mo_sort 13 = .ok (.istore_n 3, 1) := by decide +kernel
theorem d_Mo_sort_14 : decode b_Mo_sort 14 = .ok (.iload_n 3, 1) := by decide +kernel
theorem d_Mo_sort_15 : decode b_Mo_sort 15 = .ok (.ifCond .le 26, 3) := by decide +kernel
theorem d_Mo_sort_18 : decode b_Mo_sort 18 = .ok (.aload_n 0, 1) := by decide +kernel
theorem d_Mo_sort_19 : decode b_Mo_sort 19 = .ok (.iload_n 3, 1) := by decide +kernel
theorem d_Mo_sort_20 : decode b_Mo_sort 20 = .ok (.iconst 1, 1) := by decide +kernel
theorem d_Mo_sort_21 : decode b_Mo_sort 21 = .ok (.isub, 1) := by decide +kernel
theorem d_Mo_sort_22 : decode b_Mo_sort 22 = .ok (.iaload, 1) := by decide +kernel
theorem d_Mo_sort_23 : decode b_Mo_sort 23 = .ok (.iload_n 2, 1) := by decide +kernel
theorem d_Mo_sort_24 : decode b_Mo_sort 24 = .ok (.if_icmp .le 17, 3) := by decide +kernel
theorem d_Mo_sort_27 : decode b_Mo_sort 27 = .ok (.aload_n 0, 1) := by decide +kernel
theorem d_Mo_sort_28 : decode b_Mo_sort 28 = .ok (.iload_n 3, 1) := by decide +kernel
theorem d_Mo_sort_29 : decode b_Mo_sort 29 = .ok (.aload_n 0, 1) := by decide +kernel
theorem d_Mo_sort_30 : decode b_Mo_sort 30 = .ok (.iload_n 3, 1) := by decide +kernel
theorem d_Mo_sort_31 : decode b_Mo_sort 31 = .ok (.iconst 1, 1) := by decide +kernel
theorem d_Mo_sort_32 : decode b_Mo_sort 32 = .ok (.isub, 1) := by decide +kernel
theorem d_Mo_sort_33 : decode b_Mo_sort 33 = .ok (.iaload, 1) := by decide +kernel
theorem d_Mo_sort_34 : decode b_Mo_sort 34 = .ok (.iastore, 1) := by decide +kernel
theorem d_Mo_sort_35 : decode b_Mo_sort 35 = .ok (.iinc 3 (-1), 3) := by decide +kernel
theorem d_Mo_sort_38 : decode b_Mo_sort 38 = .ok (.goto (-24), 3) := by decide +kernel
theorem d_Mo_sort_41 : decode b_Mo_sort 41 = .ok (.aload_n 0, 1) := by decide +kernel
theorem d_Mo_sort_42 : decode b_Mo_sort 42 = .ok (.iload_n 3, 1) := by decide +kernel
theorem d_Mo_sort_43 : decode b_Mo_sort 43 = .ok (.iload_n 2, 1) := by decide +kernel
theorem d_Mo_sort_44 : decode b_Mo_sort 44 = .ok (.iastore, 1) := by decide +kernel
theorem d_Mo_sort_45 : decode b_Mo_sort 45 = .ok (.iinc 1 1, 3) := by decide +kernel
theorem d_Mo_sort_48 : decode b_Mo_sort 48 = .ok (.goto (-46), 3) := by decide +kernel
theorem d_Mo_sort_51 : decode b_Mo_sort 51 = .ok (.return_, 1) := by decide +kernel
theorem d_Mo_hasTwinsAnywhere_0 : decode b_Mo_hasTwinsAnywhere 0 = .ok (.iconst 0, 1) := by decide +kernel
theorem d_Mo_hasTwinsAnywhere_1 : decode b_Mo_hasTwinsAnywhere 1 = .ok (.istore_n 2, 1) := by decide +kernel
theorem d_Mo_hasTwinsAnywhere_2 : decode b_Mo_hasTwinsAnywhere 2 = .ok (.iload_n 2, 1) := by decide +kernel
theorem d_Mo_hasTwinsAnywhere_3 : decode b_Mo_hasTwinsAnywhere 3 = .ok (.aload_n 0, 1) := by decide +kernel
theorem d_Mo_hasTwinsAnywhere_4 : decode b_Mo_hasTwinsAnywhere 4 = .ok (.arraylength, 1) := by decide +kernel
theorem d_Mo_hasTwinsAnywhere_5 : decode b_Mo_hasTwinsAnywhere 5 = .ok (.if_icmp .gt 20, 3) := by decide +kernel
theorem d_Mo_hasTwinsAnywhere_8 : decode b_Mo_hasTwinsAnywhere 8 = .ok (.aload_n 0, 1) := by decide +kernel
theorem d_Mo_hasTwinsAnywhere_9 : decode b_Mo_hasTwinsAnywhere 9 = .ok (.aload_n 1, 1) := by decide +kernel
theorem d_Mo_hasTwinsAnywhere_10 : decode b_Mo_hasTwinsAnywhere 10 = .ok (.iload_n 2, 1) := by decide +kernel
theorem d_Mo_hasTwinsAnywhere_11 : decode b_Mo_hasTwinsAnywhere 11 = .ok (.invokestatic 27, 3) := by decide +kernel
theorem d_Mo_hasTwinsAnywhere_14 : decode b_Mo_hasTwinsAnywhere 14 = .ok (.ifCond .eq 5, 3) := by decide +kernel
theorem d_Mo_hasTwinsAnywhere_17 : decode b_Mo_hasTwinsAnywhere 17 = .ok (.iconst 1, 1) := by decide +kernel
theorem d_Mo_hasTwinsAnywhere_18 : decode b_Mo_hasTwinsAnywhere 18 = .ok (.ireturn, 1) := by decide +kernel
theorem d_Mo_hasTwinsAnywhere_19 : decode b_Mo_hasTwinsAnywhere 19 = .ok (.iinc 2 1, 3) := by decide +kernel
theorem d_Mo_hasTwinsAnywhere_22 : decode b_Mo_hasTwinsAnywhere 22 = .ok (.goto (-20), 3) := by decide +kernel
theorem d_Mo_hasTwinsAnywhere_25 : decode b_Mo_hasTwinsAnywhere 25 = .ok (.iconst 0, 1) := by decide +kernel
theorem d_Mo_hasTwinsAnywhere_26 : decode b_Mo_hasTwinsAnywhere 26 = .ok (.ireturn, 1) := by decide +kernel
theorem d_Mo_hasTwins_0 : decode b_Mo_hasTwins 0 = .ok (.iconst 0, 1) := by decide +kernel
theorem d_Mo_hasTwins_1 : decode b_Mo_hasTwins 1 = .ok (.istore_n 3, 1) := by decide +kernel
theorem d_Mo_hasTwins_2 : decode b_Mo_hasTwins 2 = .ok (.iconst 0, 1) := by decide +kernel
theorem d_Mo_hasTwins_3 : decode b_Mo_hasTwins 3 = .ok (.istore 4, 2) := by decide +kernel
theorem d_Mo_hasTwins_5 : decode b_Mo_hasTwins 5 = .ok (.iload 4, 2) := by decide +kernel
theorem d_Mo_hasTwins_7 : decode b_Mo_hasTwins 7 = .ok (.aload_n 0, 1) := by decide +kernel
theorem d_Mo_hasTwins_8 : decode b_Mo_hasTwins 8 = .ok (.arraylength, 1) := by decide +kernel
theorem d_Mo_hasTwins_9 : decode b_Mo_hasTwins 9 = .ok (.if_icmp .ge 45, 3) := by decide +kernel
theorem d_Mo_hasTwins_12 : decode b_Mo_hasTwins 12 = .ok (.aload_n 1, 1) := by decide +kernel
theorem d_Mo_hasTwins_13 : decode b_Mo_hasTwins 13 = .ok (.iload_n 2, 1) := by decide +kernel
theorem d_Mo_hasTwins_14 : decode b_Mo_hasTwins 14 = .ok (.aload_n 0, 1) := by decide +kernel
theorem d_Mo_hasTwins_15 : decode b_Mo_hasTwins 15 = .ok (.iload 4, 2) := by decide +kernel
theorem d_Mo_hasTwins_17 : decode b_Mo_hasTwins 17 = .ok (.iaload, 1) := by decide +kernel
theorem d_Mo_hasTwins_18 : decode b_Mo_hasTwins 18 = .ok (.invokestatic 31, 3) := by decide +kernel
theorem d_Mo_hasTwins_21 : decode b_Mo_hasTwins 21 = .ok (.invokevirtual 35, 3) := by decide +kernel
theorem d_Mo_hasTwins_24 : decode b_Mo_hasTwins 24 = .ok (.ifCond .eq 24, 3) := by decide +kernel
theorem d_Mo_hasTwins_27 : decode b_Mo_hasTwins 27 = .ok (.aload_n 0, 1) := by decide +kernel
theorem d_Mo_hasTwins_28 : decode b_Mo_hasTwins 28 = .ok (.iload 4, 2) := by decide +kernel
theorem d_Mo_hasTwins_30 : decode b_Mo_hasTwins 30 = .ok (.iaload, 1) := by decide +kernel
theorem d_Mo_hasTwins_31 : decode b_Mo_hasTwins 31 = .ok (.invokestatic 41, 3) := by decide +kernel
theorem d_Mo_hasTwins_34 : decode b_Mo_hasTwins 34 = .ok (.iload_n 3, 1) := by decide +kernel
theorem d_Mo_hasTwins_35 : decode b_Mo_hasTwins 35 = .ok (.if_icmp .ne 5, 3) := by decide +kernel
theorem d_Mo_hasTwins_38 : decode b_Mo_hasTwins 38 = .ok (.iconst 1, 1) := by decide +kernel
theorem d_Mo_hasTwins_39 : decode b_Mo_hasTwins 39 = .ok (.ireturn, 1) := by decide +kernel
theorem d_Mo_hasTwins_40 : decode b_Mo_hasTwins 40 = .ok (.aload_n 0, 1) := by decide +kernel
theorem d_Mo_hasTwins_41 : decode b_Mo_hasTwins 41 = .ok (.iload 4, 2) := by decide +kernel
theorem d_Mo_hasTwins_43 : decode b_Mo_hasTwins 43 = .ok (.iaload, 1) := by decide +kernel
theorem d_Mo_hasTwins_44 : decode b_Mo_hasTwins 44 = .ok (.invokestatic 41, 3) := by decide +kernel
theorem d_Mo_hasTwins_47 : decode b_Mo_hasTwins 47 = .ok (.istore_n 3, 1) := by decide +kernel
theorem d_Mo_hasTwins_48 : decode b_Mo_hasTwins 48 = .ok (.iinc 4 1, 3) := by decide +kernel
theorem d_Mo_hasTwins_51 : decode b_Mo_hasTwins 51 = .ok (.goto (-46), 3) := by decide +kernel
theorem d_Mo_hasTwins_54 : decode b_Mo_hasTwins 54 = .ok (.iconst 0, 1) := by decide +kernel
theorem d_Mo_hasTwins_55 : decode b_Mo_hasTwins 55 = .ok (.ireturn, 1) := by decide +kernel
theorem d_Mo_putFirst_0 : decode b_Mo_putFirst 0 = .ok (.aload_n 1, 1) := by decide +kernel
theorem d_Mo_putFirst_1 : decode b_Mo_putFirst 1 = .ok (.iload_n 2, 1) := by decide +kernel
theorem d_Mo_putFirst_2 : decode b_Mo_putFirst 2 = .ok (.invokevirtual 44, 3) := by decide +kernel
theorem d_Mo_putFirst_5 : decode b_Mo_putFirst 5 = .ok (.aload_n 1, 1) := by decide +kernel
theorem d_Mo_putFirst_6 : decode b_Mo_putFirst 6 = .ok (.iload_n 2, 1) := by decide +kernel
theorem d_Mo_putFirst_7 : decode b_Mo_putFirst 7 = .ok (.aload_n 0, 1) := by decide +kernel
theorem d_Mo_putFirst_8 : decode b_Mo_putFirst 8 = .ok (.getfield 15, 3) := by decide +kernel
theorem d_Mo_putFirst_11 : decode b_Mo_putFirst 11 = .ok (.aload_n 0, 1) := by decide +kernel
theorem d_Mo_putFirst_12 : decode b_Mo_putFirst 12 = .ok (.getfield 9, 3) := by decide +kernel
theorem d_Mo_putFirst_15 : decode b_Mo_putFirst 15 = .ok (.arraylength, 1) := by decide +kernel
theorem d_Mo_putFirst_16 : decode b_Mo_putFirst 16 = .ok (.invokevirtual 48, 3) := by decide +kernel
theorem d_Mo_putFirst_19 : decode b_Mo_putFirst 19 = .ok (.return_, 1) := by decide +kernel
theorem d_Mo_putBehind_0 : decode b_Mo_putBehind 0 = .ok (.aload_n 1, 1) := by decide +kernel
theorem d_Mo_putBehind_1 : decode b_Mo_putBehind 1 = .ok (.iload_n 2, 1) := by decide +kernel
theorem d_Mo_putBehind_2 : decode b_Mo_putBehind 2 = .ok (.iconst 1, 1) := by decide +kernel
theorem d_Mo_putBehind_3 : decode b_Mo_putBehind 3 = .ok (.iadd, 1) := by decide +kernel
theorem d_Mo_putBehind_4 : decode b_Mo_putBehind 4 = .ok (.invokevirtual 44, 3) := by decide +kernel
theorem d_Mo_putBehind_7 : decode b_Mo_putBehind 7 = .ok (.iconst 0, 1) := by decide +kernel
theorem d_Mo_putBehind_8 : decode b_Mo_putBehind 8 = .ok (.istore 4, 2) := by decide +kernel
theorem d_Mo_putBehind_10 : decode b_Mo_putBehind 10 = .ok (.iload 4, 2) := by decide +kernel
theorem d_Mo_putBehind_12 : decode b_Mo_putBehind 12 = .ok (.aload_n 0, 1) := by decide +kernel
theorem d_Mo_putBehind_13 : decode b_Mo_putBehind 13 = .ok (.getfield 9, 3) := by decide +kernel
theorem d_Mo_putBehind_16 : decode b_Mo_putBehind 16 = .ok (.arraylength, 1) := by decide +kernel
theorem d_Mo_putBehind_17 : decode b_Mo_putBehind 17 = .ok (.if_icmp .ge 58, 3) := by decide +kernel
theorem d_Mo_putBehind_20 : decode b_Mo_putBehind 20 = .ok (.aload_n 0, 1) := by decide +kernel
theorem d_Mo_putBehind_21 : decode b_Mo_putBehind 21 = .ok (.getfield 9, 3) := by decide +kernel
theorem d_Mo_putBehind_24 : decode b_Mo_putBehind 24 = .ok (.iload 4, 2) := by decide +kernel
theorem d_Mo_putBehind_26 : decode b_Mo_putBehind 26 = .ok (.iaload, 1) := by decide +kernel
theorem d_Mo_putBehind_27 : decode b_Mo_putBehind 27 = .ok (.invokestatic 31, 3) := by decide +kernel
theorem d_Mo_putBehind_30 : decode b_Mo_putBehind 30 = .ok (.istore 5, 2) := by decide +kernel
theorem d_Mo_putBehind_32 : decode b_Mo_putBehind 32 = .ok (.aload_n 0, 1) := by decide +kernel
theorem d_Mo_putBehind_33 : decode b_Mo_putBehind 33 = .ok (.getfield 9, 3) := by decide +kernel
theorem d_Mo_putBehind_36 : decode b_Mo_putBehind 36 = .ok (.iload 4, 2) := by decide +kernel
theorem d_Mo_putBehind_38 : decode b_Mo_putBehind 38 = .ok (.iaload, 1) := by decide +kernel
theorem d_Mo_putBehind_39 : decode b_Mo_putBehind 39 = .ok (.invokestatic 41, 3) := by decide +kernel
theorem d_Mo_putBehind_42 : decode b_Mo_putBehind 42 = .ok (.iload_n 3, 1) := by decide +kernel
theorem d_Mo_putBehind_43 : decode b_Mo_putBehind 43 = .ok (.if_icmp .ne 26, 3) := by decide +kernel
theorem d_Mo_putBehind_46 : decode b_Mo_putBehind 46 = .ok (.aload_n 1, 1) := by decide +kernel
theorem d_Mo_putBehind_47 : decode b_Mo_putBehind 47 = .ok (.iload_n 2, 1) := by decide +kernel
theorem d_Mo_putBehind_48 : decode b_Mo_putBehind 48 = .ok (.iload 5, 2) := by decide +kernel
theorem d_Mo_putBehind_50 : decode b_Mo_putBehind 50 = .ok (.invokevirtual 35, 3) := by decide +kernel
theorem d_Mo_putBehind_53 : decode b_Mo_putBehind 53 = .ok (.ifCond .eq 16, 3) := by decide +kernel
theorem d_Mo_putBehind_56 : decode b_Mo_putBehind 56 = .ok (.aload_n 1, 1) := by decide +kernel
theorem d_Mo_putBehind_57 : decode b_Mo_putBehind 57 = .ok (.iload_n 2, 1) := by decide +kernel
theorem d_Mo_putBehind_58 : decode b_Mo_putBehind 58 = .ok (.iconst 1, 1) := by decide +kernel
theorem d_Mo_putBehind_59 : decode b_Mo_putBehind 59 = .ok (.iadd, 1) := by decide +kernel
theorem d_Mo_putBehind_60 : decode b_Mo_putBehind 60 = .ok (.aload_n 0, 1) := by decide +kernel
theorem d_Mo_putBehind_61 : decode b_Mo_putBehind 61 = .ok (.getfield 15, 3) := by decide +kernel
theorem d_Mo_putBehind_64 : decode b_Mo_putBehind 64 = .ok (.iload 5, 2) := by decide +kernel
theorem d_Mo_putBehind_66 : decode b_Mo_putBehind 66 = .ok (.invokevirtual 48, 3) := by decide +kernel
theorem d_Mo_putBehind_69 : decode b_Mo_putBehind 69 = .ok (.iinc 4 1, 3) := by decide +kernel
theorem d_Mo_putBehind_72 : decode b_Mo_putBehind 72 = .ok (.goto (-62), 3) := by decide +kernel
theorem d_Mo_putBehind_75 : decode b_Mo_putBehind 75 = .ok (.return_, 1) := by decide +kernel
theorem d_Mo_hasName_0 : decode b_Mo_hasName 0 = .ok (.iconst 0, 1) := by decide +kernel
theorem d_Mo_hasName_1 : decode b_Mo_hasName 1 = .ok (.istore 4, 2) := by decide +kernel
theorem d_Mo_hasName_3 : decode b_Mo_hasName 3 = .ok (.iload 4, 2) := by decide +kernel
theorem d_Mo_hasName_5 : decode b_Mo_hasName 5 = .ok (.aload_n 0, 1) := by decide +kernel
theorem d_Mo_hasName_6 : decode b_Mo_hasName 6 = .ok (.getfield 9, 3) := by decide +kernel
theorem d_Mo_hasName_9 : decode b_Mo_hasName 9 = .ok (.arraylength, 1) := by decide +kernel
theorem d_Mo_hasName_10 : decode b_Mo_hasName 10 = .ok (.if_icmp .ge 43, 3) := by decide +kernel
theorem d_Mo_hasName_13 : decode b_Mo_hasName 13 = .ok (.aload_n 0, 1) := by decide +kernel
theorem d_Mo_hasName_14 : decode b_Mo_hasName 14 = .ok (.getfield 9, 3) := by decide +kernel
theorem d_Mo_hasName_17 : decode b_Mo_hasName 17 = .ok (.iload 4, 2) := by decide +kernel
theorem d_Mo_hasName_19 : decode b_Mo_hasName 19 = .ok (.iaload, 1) := by decide +kernel
theorem d_Mo_hasName_20 : decode b_Mo_hasName 20 = .ok (.invokestatic 41, 3) := by decide +kernel
theorem d_Mo_hasName_23 : decode b_Mo_hasName 23 = .ok (.iload_n 3, 1) := by decide +kernel
theorem d_Mo_hasName_24 : decode b_Mo_hasName 24 = .ok (.if_icmp .ne 23, 3) := by decide +kernel
theorem d_Mo_hasName_27 : decode b_Mo_hasName 27 = .ok (.aload_n 1, 1) := by decide +kernel
theorem d_Mo_hasName_28 : decode b_Mo_hasName 28 = .ok (.iload_n 2, 1) := by decide +kernel
theorem d_Mo_hasName_29 : decode b_Mo_hasName 29 = .ok (.aload_n 0, 1) := by decide +kernel
theorem d_Mo_hasName_30 : decode b_Mo_hasName 30 = .ok (.getfield 9, 3) := by decide +kernel
theorem d_Mo_hasName_33 : decode b_Mo_hasName 33 = .ok (.iload 4, 2) := by decide +kernel
theorem d_Mo_hasName_35 : decode b_Mo_hasName 35 = .ok (.iaload, 1) := by decide +kernel
theorem d_Mo_hasName_36 : decode b_Mo_hasName 36 = .ok (.invokestatic 31, 3) := by decide +kernel
theorem d_Mo_hasName_39 : decode b_Mo_hasName 39 = .ok (.invokevirtual 35, 3) := by decide +kernel
theorem d_Mo_hasName_42 : decode b_Mo_hasName 42 = .ok (.ifCond .eq 5, 3) := by decide +kernel
theorem d_Mo_hasName_45 : decode b_Mo_hasName 45 = .ok (.iconst 1, 1) := by decide +kernel
theorem d_Mo_hasName_46 : decode b_Mo_hasName 46 = .ok (.ireturn, 1) := by decide +kernel
theorem d_Mo_hasName_47 : decode b_Mo_hasName 47 = .ok (.iinc 4 1, 3) := by decide +kernel
theorem d_Mo_hasName_50 : decode b_Mo_hasName 50 = .ok (.goto (-47), 3) := by decide +kernel
theorem d_Mo_hasName_53 : decode b_Mo_hasName 53 = .ok (.iconst 0, 1) := by decide +kernel
theorem d_Mo_hasName_54 : decode b_Mo_hasName 54 = .ok (.ireturn, 1) := by decide +kernel
theorem d_Mo_nameAt_0 : decode b_Mo_nameAt 0 = .ok (.iconst (-1), 1) := by decide +kernel
theorem d_Mo_nameAt_1 : decode b_Mo_nameAt 1 = .ok (.istore 4, 2) := by decide +kernel
theorem d_Mo_nameAt_3 : decode b_Mo_nameAt 3 = .ok (.iconst 0, 1) := by decide +kernel
theorem d_Mo_nameAt_4 : decode b_Mo_nameAt 4 = .ok (.istore 5, 2) := by decide +kernel
theorem d_Mo_nameAt_6 : decode b_Mo_nameAt 6 = .ok (.iconst 0, 1) := by decide +kernel
theorem d_Mo_nameAt_7 : decode b_Mo_nameAt 7 = .ok (.istore 6, 2) := by decide +kernel
theorem d_Mo_nameAt_9 : decode b_Mo_nameAt 9 = .ok (.iload 6, 2) := by decide +kernel
theorem d_Mo_nameAt_11 : decode b_Mo_nameAt 11 = .ok (.aload_n 0, 1) := by decide +kernel
theorem d_Mo_nameAt_12 : decode b_Mo_nameAt 12 = .ok (.getfield 9, 3) := by decide +kernel
theorem d_Mo_nameAt_15 : decode b_Mo_nameAt 15 = .ok (.arraylength, 1) := by decide +kernel
theorem d_Mo_nameAt_16 : decode b_Mo_nameAt 16 = .ok (.if_icmp .ge 62, 3) := by decide +kernel
theorem d_Mo_nameAt_19 : decode b_Mo_nameAt 19 = .ok (.aload_n 0, 1) := by decide +kernel
theorem d_Mo_nameAt_20 : decode b_Mo_nameAt 20 = .ok (.getfield 9, 3) := by decide +kernel
theorem d_Mo_nameAt_23 : decode b_Mo_nameAt 23 = .ok (.iload 6, 2) := by decide +kernel
theorem d_Mo_nameAt_25 : decode b_Mo_nameAt 25 = .ok (.iaload, 1) := by decide +kernel
theorem d_Mo_nameAt_26 : decode b_Mo_nameAt 26 = .ok (.invokestatic 41, 3) := by decide +kernel
theorem d_Mo_nameAt_29 : decode b_Mo_nameAt 29 = .ok (.istore 7, 2) := by decide +kernel
theorem d_Mo_nameAt_31 : decode b_Mo_nameAt 31 = .ok (.iload 7, 2) := by decide +kernel
theorem d_Mo_nameAt_33 : decode b_Mo_nameAt 33 = .ok (.iload 5, 2) := by decide +kernel
theorem d_Mo_nameAt_35 : decode b_Mo_nameAt 35 = .ok (.if_icmp .eq 37, 3) := by decide +kernel
theorem d_Mo_nameAt_38 : decode b_Mo_nameAt 38 = .ok (.aload_n 1, 1) := by decide +kernel
theorem d_Mo_nameAt_39 : decode b_Mo_nameAt 39 = .ok (.iload_n 2, 1) := by decide +kernel
theorem d_Mo_nameAt_40 : decode b_Mo_nameAt 40 = .ok (.aload_n 0, 1) := by decide +kernel
theorem d_Mo_nameAt_41 : decode b_Mo_nameAt 41 = .ok (.getfield 9, 3) := by decide +kernel
theorem d_Mo_nameAt_44 : decode b_Mo_nameAt 44 = .ok (.iload 6, 2) := by decide +kernel
theorem d_Mo_nameAt_46 : decode b_Mo_nameAt 46 = .ok (.iaload, 1) := by decide +kernel
theorem d_Mo_nameAt_47 : decode b_Mo_nameAt 47 = .ok (.invokestatic 31, 3) := by decide +kernel
theorem d_Mo_nameAt_50 : decode b_Mo_nameAt 50 = .ok (.invokevirtual 35, 3) := by decide +kernel
theorem d_Mo_nameAt_53 : decode b_Mo_nameAt 53 = .ok (.ifCond .eq 19, 3) := by decide +kernel
theorem d_Mo_nameAt_56 : decode b_Mo_nameAt 56 = .ok (.iload 7, 2) := by decide +kernel
theorem d_Mo_nameAt_58 : decode b_Mo_nameAt 58 = .ok (.istore 5, 2) := by decide +kernel
theorem d_Mo_nameAt_60 : decode b_Mo_nameAt 60 = .ok (.iinc 4 1, 3) := by decide +kernel
theorem d_Mo_nameAt_63 : decode b_Mo_nameAt 63 = .ok (.iload 4, 2) := by decide +kernel
theorem d_Mo_nameAt_65 : decode b_Mo_nameAt 65 = .ok (.iload_n 3, 1) := by decide +kernel
theorem d_Mo_nameAt_66 : decode b_Mo_nameAt 66 = .ok (.if_icmp .ne 6, 3) := by decide +kernel
theorem d_Mo_nameAt_69 : decode b_Mo_nameAt 69 = .ok (.iload 7, 2) := by decide +kernel
theorem d_Mo_nameAt_71 : decode b_Mo_nameAt 71 = .ok (.ireturn, 1) := by decide +kernel
theorem d_Mo_nameAt_72 : decode b_Mo_nameAt 72 = .ok (.iinc 6 1, 3) := by decide +kernel
theorem d_Mo_nameAt_75 : decode b_Mo_nameAt 75 = .ok (.goto (-66), 3) := by decide +kernel
theorem d_Mo_nameAt_78 : decode b_Mo_nameAt 78 = .ok (.iconst (-1), 1) := by decide +kernel
theorem d_Mo_nameAt_79 : decode b_Mo_nameAt 79 = .ok (.ireturn, 1) := by decide +kernel
theorem d_Re_init_0 : decode b_Re_init 0 = .ok (.aload_n 0, 1) := by decide +kernel
theorem d_Re_init_1 : decode b_Re_init 1 = .ok (.invokespecial 3, 3) := by decide +kernel
theorem d_Re_init_4 : decode b_Re_init 4 = .ok (.aload_n 0, 1) := by decide +kernel
theorem d_Re_init_5 : decode b_Re_init 5 = .ok (.sipush 1000, 3) := by decide +kernel
theorem d_Re_init_8 : decode b_Re_init 8 = .ok (.newarray .int, 2) := by decide +kernel
theorem d_Re_init_10 : decode b_Re_init 10 = .ok (.putfield 9, 3) := by decide +kernel
theorem d_Re_init_13 : decode b_Re_init 13 = .ok (.aload_n 0, 1) := by decide +kernel
theorem d_Re_init_14 : decode b_Re_init 14 = .ok (.new 15, 3) := by decide +kernel
theorem d_Re_init_17 : decode b_Re_init 17 = .ok (.dup, 1) := by decide +kernel
theorem d_Re_init_18 : decode b_Re_init 18 = .ok (.sipush 1001, 3) := by decide +kernel
theorem d_Re_init_21 : decode b_Re_init 21 = .ok (.invokespecial 17, 3) := by decide +kernel
theorem d_Re_init_24 : decode b_Re_init 24 = .ok (.putfield 20, 3) := by decide +kernel
theorem d_Re_init_27 : decode b_Re_init 27 = .ok (.return_, 1) := by decide +kernel
theorem d_Re_startWith_0 : decode b_Re_startWith 0 = .ok (.aload_n 0, 1) := by decide +kernel
theorem d_Re_startWith_1 : decode b_Re_startWith 1 = .ok (.aload_n 1, 1) := by decide +kernel
theorem d_Re_startWith_2 : decode b_Re_startWith 2 = .ok (.putfield 24, 3) := by decide +kernel
theorem d_Re_startWith_5 : decode b_Re_startWith 5 = .ok (.aload_n 0, 1) := by decide +kernel
theorem d_Re_startWith_6 : decode b_Re_startWith 6 = .ok (.iconst 0, 1) := by decide +kernel
theorem d_Re_startWith_7 : decode b_Re_startWith 7 = .ok (.putfield 28, 3) := by decide +kernel
theorem d_Re_startWith_10 : decode b_Re_startWith 10 = .ok (.aload_n 1, 1) := by decide +kernel
theorem d_Re_startWith_11 : decode b_Re_startWith 11 = .ok (.aload_n 0, 1) := by decide +kernel
theorem d_Re_startWith_12 : decode b_Re_startWith 12 = .ok (.getfield 20, 3) := by decide +kernel
theorem d_Re_startWith_15 : decode b_Re_startWith 15 = .ok (.iconst 0, 1) := by decide +kernel
theorem d_Re_startWith_16 : decode b_Re_startWith 16 = .ok (.invokevirtual 32, 3) := by decide +kernel
theorem d_Re_startWith_19 : decode b_Re_startWith 19 = .ok (.return_, 1) := by decide +kernel
theorem d_Re_take_0 : decode b_Re_take 0 = .ok (.aload_n 0, 1) := by decide +kernel
theorem d_Re_take_1 : decode b_Re_take 1 = .ok (.getfield 24, 3) := by decide +kernel
theorem d_Re_take_4 : decode b_Re_take 4 = .ok (.ifnull 22, 3) := by decide +kernel
theorem d_Re_take_7 : decode b_Re_take 7 = .ok (.aload_n 0, 1) := by decide +kernel
theorem d_Re_take_8 : decode b_Re_take 8 = .ok (.getfield 28, 3) := by decide +kernel
theorem d_Re_take_11 : decode b_Re_take 11 = .ok (.ifCond .lt 15, 3) := by decide +kernel
theorem d_Re_take_14 : decode b_Re_take 14 = .ok (.aload_n 0, 1) := by decide +kernel
theorem d_Re_take_15 : decode b_Re_take 15 = .ok (.getfield 28, 3) := by decide +kernel
theorem d_Re_take_18 : decode b_Re_take 18 = .ok (.aload_n 0, 1) := by decide +kernel
theorem d_Re_take_19 : decode b_Re_take 19 = .ok (.getfield 9, 3) := by decide +kernel
theorem d_Re_take_22 : decode b_Re_take 22 = .ok (.arraylength, 1) := by decide +kernel
theorem d_Re_take_23 : decode b_Re_take 23 = .ok (.if_icmp .lt 5, 3) := by decide +kernel
theorem d_Re_take_26 : decode b_Re_take 26 = .ok (.iconst 0, 1) := by decide +kernel
theorem d_Re_take_27 : decode b_Re_take 27 = .ok (.ireturn, 1) := by decide +kernel
theorem d_Re_take_28 : decode b_Re_take 28 = .ok (.aload_n 0, 1) := by decide +kernel
theorem d_Re_take_29 : decode b_Re_take 29 = .ok (.getfield 9, 3) := by decide +kernel
theorem d_Re_take_32 : decode b_Re_take 32 = .ok (.aload_n 0, 1) := by decide +kernel
theorem d_Re_take_33 : decode b_Re_take 33 = .ok (.getfield 28, 3) := by decide +kernel
theorem d_Re_take_36 : decode b_Re_take 36 = .ok (.iload_n 1, 1) := by decide +kernel
theorem d_Re_take_37 : decode b_Re_take 37 = .ok (.iastore, 1) := by decide +kernel
theorem d_Re_take_38 : decode b_Re_take 38 = .ok (.aload_n 0, 1) := by decide +kernel
theorem d_Re_take_39 : decode b_Re_take 39 = .ok (.getfield 24, 3) := by decide +kernel
theorem d_Re_take_42 : decode b_Re_take 42 = .ok (.aload_n 0, 1) := by decide +kernel
theorem d_Re_take_43 : decode b_Re_take 43 = .ok (.getfield 20, 3) := by decide +kernel
theorem d_Re_take_46 : decode b_Re_take 46 = .ok (.aload_n 0, 1) := by decide +kernel
theorem d_Re_take_47 : decode b_Re_take 47 = .ok (.getfield 28, 3) := by decide +kernel
theorem d_Re_take_50 : decode b_Re_take 50 = .ok (.iload_n 1, 1) := by decide +kernel
theorem d_Re_take_51 : decode b_Re_take 51 = .ok (.invokevirtual 38, 3) := by decide +kernel
theorem d_Re_take_54 : decode b_Re_take 54 = .ok (.aload_n 0, 1) := by decide +kernel
theorem d_Re_take_55 : decode b_Re_take 55 = .ok (.dup, 1) := by decide +kernel
theorem d_Re_take_56 : decode b_Re_take 56 = .ok (.getfield 28, 3) := by decide +kernel
theorem d_Re_take_59 : decode b_Re_take 59 = .ok (.iconst 1, 1) := by decide +kernel
theorem d_Re_take_60 : decode b_Re_take 60 = .ok (.iadd, 1) := by decide +kernel
theorem d_Re_take_61 : decode b_Re_take 61 = .ok (.putfield 28, 3) := by decide +kernel
theorem d_Re_take_64 : decode b_Re_take 64 = .ok (.iconst 1, 1) := by decide +kernel
theorem d_Re_take_65 : decode b_Re_take 65 = .ok (.ireturn, 1) := by decide +kernel
theorem d_Re_mayEnd_0 : decode b_Re_mayEnd 0 = .ok (.aload_n 0, 1) := by decide +kernel
theorem d_Re_mayEnd_1 : decode b_Re_mayEnd 1 = .ok (.getfield 24, 3) := by decide +kernel
theorem d_Re_mayEnd_4 : decode b_Re_mayEnd 4 = .ok (.ifnull 24, 3) := by decide +kernel
theorem d_Re_mayEnd_7 : decode b_Re_mayEnd 7 = .ok (.aload_n 0, 1) := by decide +kernel
theorem d_Re_mayEnd_8 : decode b_Re_mayEnd 8 = .ok (.getfield 20, 3) := by decide +kernel
theorem d_Re_mayEnd_11 : decode b_Re_mayEnd 11 = .ok (.aload_n 0, 1) := by decide +kernel
theorem d_Re_mayEnd_12 : decode b_Re_mayEnd 12 = .ok (.getfield 28, 3) := by decide +kernel
theorem d_Re_mayEnd_15 : decode b_Re_mayEnd 15 = .ok (.sipush 255, 3) := by decide +kernel
theorem d_Re_mayEnd_18 : decode b_Re_mayEnd 18 = .ok (.invokevirtual 42, 3) := by decide +kernel
theorem d_Re_mayEnd_21 : decode b_Re_mayEnd 21 = .ok (.ifCond .eq 7, 3) := by decide +kernel
theorem d_Re_mayEnd_24 : decode b_Re_mayEnd 24 = .ok (.iconst 1, 1) := by decide +kernel
theorem d_Re_mayEnd_25 : decode b_Re_mayEnd 25 = .ok (.goto 4, 3) := by decide +kernel
theorem d_Re_mayEnd_28 : decode b_Re_mayEnd 28 = .ok (.iconst 0, 1) := by decide +kernel
theorem d_Re_mayEnd_29 : decode b_Re_mayEnd 29 = .ok (.ireturn, 1) := by decide +kernel
theorem d_Re_mayTake_0 : decode b_Re_mayTake 0 = .ok (.aload_n 0, 1) := by decide +kernel
theorem d_Re_mayTake_1 : decode b_Re_mayTake 1 = .ok (.getfield 24, 3) := by decide +kernel
theorem d_Re_mayTake_4 : decode b_Re_mayTake 4 = .ok (.ifnull 26, 3) := by decide +kernel
theorem d_Re_mayTake_7 : decode b_Re_mayTake 7 = .ok (.aload_n 0, 1) := by decide +kernel
theorem d_Re_mayTake_8 : decode b_Re_mayTake 8 = .ok (.getfield 24, 3) := by decide +kernel
theorem d_Re_mayTake_11 : decode b_Re_mayTake 11 = .ok (.aload_n 0, 1) := by decide +kernel
theorem d_Re_mayTake_12 : decode b_Re_mayTake 12 = .ok (.getfield 20, 3) := by decide +kernel
theorem d_Re_mayTake_15 : decode b_Re_mayTake 15 = .ok (.aload_n 0, 1) := by decide +kernel
theorem d_Re_mayTake_16 : decode b_Re_mayTake 16 = .ok (.getfield 28, 3) := by decide +kernel
theorem d_Re_mayTake_19 : decode b_Re_mayTake 19 = .ok (.iload_n 1, 1) := by decide +kernel
theorem d_Re_mayTake_20 : decode b_Re_mayTake 20 = .ok (.invokevirtual 46, 3) := by decide +kernel
theorem d_Re_mayTake_23 : decode b_Re_mayTake 23 = .ok (.ifCond .eq 7, 3) := by decide +kernel
theorem d_Re_mayTake_26 : decode b_Re_mayTake 26 = .ok (.iconst 1, 1) := by decide +kernel
theorem d_Re_mayTake_27 : decode b_Re_mayTake 27 = .ok (.goto 4, 3) := by decide +kernel
theorem d_Re_mayTake_30 : decode b_Re_mayTake 30 = .ok (.iconst 0, 1) := by decide +kernel
theorem d_Re_mayTake_31 : decode b_Re_mayTake 31 = .ok (.ireturn, 1) := by decide +kernel
theorem d_Re_offer_0 : decode b_Re_offer 0 = .ok (.aload_n 0, 1) := by decide +kernel
theorem d_Re_offer_1 : decode b_Re_offer 1 = .ok (.getfield 24, 3) := by decide +kernel
theorem d_Re_offer_4 : decode b_Re_offer 4 = .ok (.ifnonnull 7, 3) := by decide +kernel
theorem d_Re_offer_7 : decode b_Re_offer 7 = .ok (.iconst (-1), 1) := by decide +kernel
theorem d_Re_offer_8 : decode b_Re_offer 8 = .ok (.goto 19, 3) := by decide +kernel
theorem d_Re_offer_11 : decode b_Re_offer 11 = .ok (.aload_n 0, 1) := by decide +kernel
theorem d_Re_offer_12 : decode b_Re_offer 12 = .ok (.getfield 24, 3) := by decide +kernel
theorem d_Re_offer_15 : decode b_Re_offer 15 = .ok (.aload_n 0, 1) := by decide +kernel
theorem d_Re_offer_16 : decode b_Re_offer 16 = .ok (.getfield 20, 3) := by decide +kernel
theorem d_Re_offer_19 : decode b_Re_offer 19 = .ok (.aload_n 0, 1) := by decide +kernel
theorem d_Re_offer_20 : decode b_Re_offer 20 = .ok (.getfield 28, 3) := by decide +kernel
theorem d_Re_offer_23 : decode b_Re_offer 23 = .ok (.iload_n 1, 1) := by decide +kernel
theorem d_Re_offer_24 : decode b_Re_offer 24 = .ok (.invokevirtual 50, 3) := by decide +kernel
theorem d_Re_offer_27 : decode b_Re_offer 27 = .ok (.ireturn, 1) := by decide +kernel
theorem d_Re_takeBack_0 : decode b_Re_takeBack 0 = .ok (.aload_n 0, 1) := by decide +kernel
theorem d_Re_takeBack_1 : decode b_Re_takeBack 1 = .ok (.getfield 28, 3) := by decide +kernel
theorem d_Re_takeBack_4 : decode b_Re_takeBack 4 = .ok (.iconst 1, 1) := by decide +kernel
theorem d_Re_takeBack_5 : decode b_Re_takeBack 5 = .ok (.isub, 1) := by decide +kernel
theorem d_Re_takeBack_6 : decode b_Re_takeBack 6 = .ok (.istore_n 1, 1) := by decide +kernel
theorem d_Re_takeBack_7 : decode b_Re_takeBack 7 = .ok (.aload_n 0, 1) := by decide +kernel
theorem d_Re_takeBack_8 : decode b_Re_takeBack 8 = .ok (.getfield 24, 3) := by decide +kernel
theorem d_Re_takeBack_11 : decode b_Re_takeBack 11 = .ok (.ifnull 16, 3) := by decide +kernel
theorem d_Re_takeBack_14 : decode b_Re_takeBack 14 = .ok (.iload_n 1, 1) := by decide +kernel
theorem d_Re_takeBack_15 : decode b_Re_takeBack 15 = .ok (.ifCond .lt 12, 3) := by decide +kernel
theorem d_Re_takeBack_18 : decode b_Re_takeBack 18 = .ok (.iload_n 1, 1) := by decide +kernel
theorem d_Re_takeBack_19 : decode b_Re_takeBack 19 = .ok (.aload_n 0, 1) := by decide +kernel
theorem d_Re_takeBack_20 : decode b_Re_takeBack 20 = .ok (.getfield 9, 3) := by decide +kernel
theorem d_Re_takeBack_23 : decode b_Re_takeBack 23 = .ok (.arraylength, 1) := by decide +kernel
theorem d_Re_takeBack_24 : decode b_Re_takeBack 24 = .ok (.if_icmp .lt 5, 3) := by decide +kernel
theorem d_Re_takeBack_27 : decode b_Re_takeBack 27 = .ok (.iconst (-1), 1) := by decide +kernel
theorem d_Re_takeBack_28 : decode b_Re_takeBack 28 = .ok (.ireturn, 1) := by decide +kernel
theorem d_Re_takeBack_29 : decode b_Re_takeBack 29 = .ok (.aload_n 0, 1) := by decide +kernel
theorem d_Re_takeBack_30 : decode b_Re_takeBack 30 = .ok (.iload_n 1, 1) := by decide +kernel
theorem d_Re_takeBack_31 : decode b_Re_takeBack 31 = .ok (.putfield 28, 3) := by decide +kernel
theorem d_Re_takeBack_34 : decode b_Re_takeBack 34 = .ok (.aload_n 0, 1) := by decide +kernel
theorem d_Re_takeBack_35 : decode b_Re_takeBack 35 = .ok (.getfield 9, 3) := by decide +kernel
theorem d_Re_takeBack_38 : decode b_Re_takeBack 38 = .ok (.iload_n 1, 1) := by decide +kernel
theorem d_Re_takeBack_39 : decode b_Re_takeBack 39 = .ok (.iaload, 1) := by decide +kernel
theorem d_Re_takeBack_40 : decode b_Re_takeBack 40 = .ok (.ireturn, 1) := by decide +kernel
theorem d_Se_init_0 : decode b_Se_init 0 = .ok (.aload_n 0, 1) := by decide +kernel
theorem d_Se_init_1 : decode b_Se_init 1 = .ok (.invokespecial 3, 3) := by decide +kernel
theorem d_Se_init_4 : decode b_Se_init 4 = .ok (.aload_n 0, 1) := by decide +kernel
theorem d_Se_init_5 : decode b_Se_init 5 = .ok (.iload_n 1, 1) := by decide +kernel
theorem d_Se_init_6 : decode b_Se_init 6 = .ok (.iconst 0, 1) := by decide +kernel
theorem d_Se_init_7 : decode b_Se_init 7 = .ok (.invokestatic 9, 3) := by decide +kernel
theorem d_Se_init_10 : decode b_Se_init 10 = .ok (.iconst 4, 1) := by decide +kernel
theorem d_Se_init_11 : decode b_Se_init 11 = .ok (.imul, 1) := by decide +kernel
theorem d_Se_init_12 : decode b_Se_init 12 = .ok (.newarray .long, 2) := by decide +kernel
theorem d_Se_init_14 : decode b_Se_init 14 = .ok (.putfield 17, 3) := by decide +kernel
theorem d_Se_init_17 : decode b_Se_init 17 = .ok (.return_, 1) := by decide +kernel
theorem d_Se_hasSet_0 : decode b_Se_hasSet 0 = .ok (.iload_n 1, 1) := by decide +kernel
theorem d_Se_hasSet_1 : decode b_Se_hasSet 1 = .ok (.ifCond .lt 18, 3) := by decide +kernel
theorem d_Se_hasSet_4 : decode b_Se_hasSet 4 = .ok (.iload_n 1, 1) := by decide +kernel
theorem d_Se_hasSet_5 : decode b_Se_hasSet 5 = .ok (.aload_n 0, 1) := by decide +kernel
theorem d_Se_hasSet_6 : decode b_Se_hasSet 6 = .ok (.getfield 17, 3) := by decide +kernel
theorem d_Se_hasSet_9 : decode b_Se_hasSet 9 = .ok (.arraylength, 1) := by decide +kernel
theorem d_Se_hasSet_10 : decode b_Se_hasSet 10 = .ok (.iconst 4, 1) := by decide +kernel
theorem d_Se_hasSet_11 : decode b_Se_hasSet 11 = .ok (.idiv, 1) := by decide +kernel
theorem d_Se_hasSet_12 : decode b_Se_hasSet 12 = .ok (.if_icmp .ge 7, 3) := by decide +kernel
theorem d_Se_hasSet_15 : decode b_Se_hasSet 15 = .ok (.iconst 1, 1) := by decide +kernel
theorem d_Se_hasSet_16 : decode b_Se_hasSet 16 = .ok (.goto 4, 3) := by decide +kernel
theorem d_Se_hasSet_19 : decode b_Se_hasSet 19 = .ok (.iconst 0, 1) := by decide +kernel
theorem d_Se_hasSet_20 : decode b_Se_hasSet 20 = .ok (.ireturn, 1) := by decide +kernel
theorem d_Se_hasPlace_0 : decode b_Se_hasPlace 0 = .ok (.aload_n 0, 1) := by decide +kernel
theorem d_Se_hasPlace_1 : decode b_Se_hasPlace 1 = .ok (.iload_n 1, 1) := by decide +kernel
theorem d_Se_hasPlace_2 : decode b_Se_hasPlace 2 = .ok (.invokevirtual 21, 3) := by decide +kernel
theorem d_Se_hasPlace_5 : decode b_Se_hasPlace 5 = .ok (.ifCond .eq 18, 3) := by decide +kernel
theorem d_Se_hasPlace_8 : decode b_Se_hasPlace 8 = .ok (.iload_n 2, 1) := by decide +kernel
theorem d_Se_hasPlace_9 : decode b_Se_hasPlace 9 = .ok (.ifCond .lt 14, 3) := by decide +kernel
theorem d_Se_hasPlace_12 : decode b_Se_hasPlace 12 = .ok (.iload_n 2, 1) := by decide +kernel
theorem d_Se_hasPlace_13 : decode b_Se_hasPlace 13 = .ok (.sipush 255, 3) := by decide +kernel
theorem d_Se_hasPlace_16 : decode b_Se_hasPlace 16 = .ok (.if_icmp .gt 7, 3) := by decide +kernel
theorem d_Se_hasPlace_19 : decode b_Se_hasPlace 19 = .ok (.iconst 1, 1) := by decide +kernel
theorem d_Se_hasPlace_20 : decode b_Se_hasPlace 20 = .ok (.goto 4, 3) := by decide +kernel
theorem d_Se_hasPlace_23 : decode b_Se_hasPlace 23 = .ok (.iconst 0, 1) := by decide +kernel
theorem d_Se_hasPlace_24 : decode b_Se_hasPlace 24 = .ok (.ireturn, 1) := by decide +kernel
theorem d_Se_holds_0 : decode b_Se_holds 0 = .ok (.aload_n 0, 1) := by decide +kernel
theorem d_Se_holds_1 : decode b_Se_holds 1 = .ok (.iload_n 1, 1) := by decide +kernel
theorem d_Se_holds_2 : decode b_Se_holds 2 = .ok (.iload_n 2, 1) := by decide +kernel
theorem d_Se_holds_3 : decode b_Se_holds 3 = .ok (.invokevirtual 25, 3) := by decide +kernel
theorem d_Se_holds_6 : decode b_Se_holds 6 = .ok (.ifCond .ne 5, 3) := by decide +kernel
theorem d_Se_holds_9 : decode b_Se_holds 9 = .ok (.iconst 0, 1) := by decide +kernel
theorem d_Se_holds_10 : decode b_Se_holds 10 = .ok (.ireturn, 1) := by decide +kernel
theorem d_Se_holds_11 : decode b_Se_holds 11 = .ok (.aload_n 0, 1) := by decide +kernel
theorem d_Se_holds_12 : decode b_Se_holds 12 = .ok (.getfield 17, 3) := by decide +kernel
theorem d_Se_holds_15 : decode b_Se_holds 15 = .ok (.iload_n 1, 1) := by decide +kernel
theorem d_Se_holds_16 : decode b_Se_holds 16 = .ok (.iconst 4, 1) := by decide +kernel
theorem d_Se_holds_17 : decode b_Se_holds 17 = .ok (.imul, 1) := by decide +kernel
theorem d_Se_holds_18 : decode b_Se_holds 18 = .ok (.iload_n 2, 1) := by decide +kernel
theorem d_Se_holds_19 : decode b_Se_holds 19 = .ok (.bipush 6, 2) := by decide +kernel
theorem d_Se_holds_21 : decode b_Se_holds 21 = .ok (.ishr, 1) := by decide +kernel
theorem d_Se_holds_22 : decode b_Se_holds 22 = .ok (.iadd, 1) := by decide +kernel
theorem d_Se_holds_23 : decode b_Se_holds 23 = .ok (.laload, 1) := by decide +kernel
theorem d_Se_holds_24 : decode b_Se_holds 24 = .ok (.iload_n 2, 1) := by decide +kernel
theorem d_Se_holds_25 : decode b_Se_holds 25 = .ok (.lushr, 1) := by decide +kernel
theorem d_Se_holds_26 : decode b_Se_holds 26 = .ok (.lconst 1, 1) := by decide +kernel
theorem d_Se_holds_27 : decode b_Se_holds 27 = .ok (.land, 1) := by decide +kernel
theorem d_Se_holds_28 : decode b_Se_holds 28 = .ok (.lconst 0, 1) := by decide +kernel
theorem d_Se_holds_29 : decode b_Se_holds 29 = .ok (.lcmp, 1) := by decide +kernel
theorem d_Se_holds_30 : decode b_Se_holds 30 = .ok (.ifCond .eq 7, 3) := by decide +kernel
theorem d_Se_holds_33 : decode b_Se_holds 33 = .ok (.iconst 1, 1) := by decide +kernel
theorem d_Se_holds_34 : decode b_Se_holds 34 = .ok (.goto 4, 3) := by decide +kernel
theorem d_Se_holds_37 : decode b_Se_holds 37 = .ok (.iconst 0, 1) := by decide +kernel
theorem d_Se_holds_38 : decode b_Se_holds 38 = .ok (.ireturn, 1) := by decide +kernel
theorem d_Se_add_0 : decode b_Se_add 0 = .ok (.aload_n 0, 1) := by decide +kernel
theorem d_Se_add_1 : decode b_Se_add 1 = .ok (.iload_n 1, 1) := by decide +kernel
theorem d_Se_add_2 : decode b_Se_add 2 = .ok (.iload_n 2, 1) := by decide +kernel
theorem d_Se_add_3 : decode b_Se_add 3 = .ok (.invokevirtual 25, 3) := by decide +kernel
theorem d_Se_add_6 : decode b_Se_add 6 = .ok (.ifCond .eq 22, 3) := by decide +kernel
theorem d_Se_add_9 : decode b_Se_add 9 = .ok (.aload_n 0, 1) := by decide +kernel
theorem d_Se_add_10 : decode b_Se_add 10 = .ok (.getfield 17, 3) := by decide +kernel
theorem d_Se_add_13 : decode b_Se_add 13 = .ok (.iload_n 1, 1) := by decide +kernel
theorem d_Se_add_14 : decode b_Se_add 14 = .ok (.iconst 4, 1) := by decide +kernel
theorem d_Se_add_15 : decode b_Se_add 15 = .ok (.imul, 1) := by decide +kernel
theorem d_Se_add_16 : decode b_Se_add 16 = .ok (.iload_n 2, 1) := by decide +kernel
theorem d_Se_add_17 : decode b_Se_add 17 = .ok (.bipush 6, 2) := by decide +kernel
theorem d_Se_add_19 : decode b_Se_add 19 = .ok (.ishr, 1) := by decide +kernel
theorem d_Se_add_20 : decode b_Se_add 20 = .ok (.iadd, 1) := by decide +kernel
theorem d_Se_add_21 : decode b_Se_add 21 = .ok (.dup2, 1) := by decide +kernel
theorem d_Se_add_22 : decode b_Se_add 22 = .ok (.laload, 1) := by decide +kernel
theorem d_Se_add_23 : decode b_Se_add 23 = .ok (.lconst 1, 1) := by decide +kernel
theorem d_Se_add_24 : decode b_Se_add 24 = .ok (.iload_n 2, 1) := by decide +kernel
theorem d_Se_add_25 : decode b_Se_add 25 = .ok (.lshl, 1) := by decide +kernel
theorem d_Se_add_26 : decode b_Se_add 26 = .ok (.lor, 1) := by decide +kernel
theorem d_Se_add_27 : decode b_Se_add 27 = .ok (.lastore, 1) := by decide +kernel
theorem d_Se_add_28 : decode b_Se_add 28 = .ok (.return_, 1) := by decide +kernel
theorem d_Se_addAll_0 : decode b_Se_addAll 0 = .ok (.aload_n 0, 1) := by decide +kernel
theorem d_Se_addAll_1 : decode b_Se_addAll 1 = .ok (.iload_n 1, 1) := by decide +kernel
theorem d_Se_addAll_2 : decode b_Se_addAll 2 = .ok (.invokevirtual 21, 3) := by decide +kernel
theorem d_Se_addAll_5 : decode b_Se_addAll 5 = .ok (.ifCond .eq 51, 3) := by decide +kernel
theorem d_Se_addAll_8 : decode b_Se_addAll 8 = .ok (.aload_n 2, 1) := by decide +kernel
theorem d_Se_addAll_9 : decode b_Se_addAll 9 = .ok (.iload_n 3, 1) := by decide +kernel
theorem d_Se_addAll_10 : decode b_Se_addAll 10 = .ok (.invokevirtual 21, 3) := by decide +kernel
theorem d_Se_addAll_13 : decode b_Se_addAll 13 = .ok (.ifCond .eq 43, 3) := by decide +kernel
theorem d_Se_addAll_16 : decode b_Se_addAll 16 = .ok (.iconst 0, 1) := by decide +kernel
theorem d_Se_addAll_17 : decode b_Se_addAll 17 = .ok (.istore 4, 2) := by decide +kernel
theorem d_Se_addAll_19 : decode b_Se_addAll 19 = .ok (.iload 4, 2) := by decide +kernel
theorem d_Se_addAll_21 : decode b_Se_addAll 21 = .ok (.iconst 4, 1) := by decide +kernel
theorem d_Se_addAll_22 : decode b_Se_addAll 22 = .ok (.if_icmp .ge 34, 3) := by decide +kernel
theorem d_Se_addAll_25 : decode b_Se_addAll 25 = .ok (.aload_n 0, 1) := by decide +kernel
theorem d_Se_addAll_26 : decode b_Se_addAll 26 = .ok (.getfield 17, 3) := by decide +kernel
theorem d_Se_addAll_29 : decode b_Se_addAll 29 = .ok (.iload_n 1, 1) := by decide +kernel
theorem d_Se_addAll_30 : decode b_Se_addAll 30 = .ok (.iconst 4, 1) := by decide +kernel
theorem d_Se_addAll_31 : decode b_Se_addAll 31 = .ok (.imul, 1) := by decide +kernel
theorem d_Se_addAll_32 : decode b_Se_addAll 32 = .ok (.iload 4, 2) := by decide +kernel
theorem d_Se_addAll_34 : decode b_Se_addAll 34 = .ok (.iadd, 1) := by decide +kernel
theorem d_Se_addAll_35 : decode b_Se_addAll 35 = .ok (.dup2, 1) := by decide +kernel
theorem d_Se_addAll_36 : decode b_Se_addAll 36 = .ok (.laload, 1) := by decide +kernel
theorem d_Se_addAll_37 : decode b_Se_addAll 37 = .ok (.aload_n 2, 1) := by decide +kernel
theorem d_Se_addAll_38 : decode b_Se_addAll 38 = .ok (.getfield 17, 3) := by decide +kernel
theorem d_Se_addAll_41 : decode b_Se_addAll 41 = .ok (.iload_n 3, 1) := by decide +kernel
theorem d_Se_addAll_42 : decode b_Se_addAll 42 = .ok (.iconst 4, 1) := by decide +kernel
theorem d_Se_addAll_43 : decode b_Se_addAll 43 = .ok (.imul, 1) := by decide +kernel
theorem d_Se_addAll_44 : decode b_Se_addAll 44 = .ok (.iload 4, 2) := by decide +kernel
theorem d_Se_addAll_46 : decode b_Se_addAll 46 = .ok (.iadd, 1) := by decide +kernel
theorem d_Se_addAll_47 : decode b_Se_addAll 47 = .ok (.laload, 1) := by decide +kernel
theorem d_Se_addAll_48 : decode b_Se_addAll 48 = .ok (.lor, 1) := by decide +kernel
theorem d_Se_addAll_49 : decode b_Se_addAll 49 = .ok (.lastore, 1) := by decide +kernel
theorem d_Se_addAll_50 : decode b_Se_addAll 50 = .ok (.iinc 4 1, 3) := by decide +kernel
theorem d_Se_addAll_53 : decode b_Se_addAll 53 = .ok (.goto (-34), 3) := by decide +kernel
theorem d_Se_addAll_56 : decode b_Se_addAll 56 = .ok (.return_, 1) := by decide +kernel
theorem d_Se_removeAll_0 : decode b_Se_removeAll 0 = .ok (.aload_n 0, 1) := by decide +kernel
theorem d_Se_removeAll_1 : decode b_Se_removeAll 1 = .ok (.iload_n 1, 1) := by decide +kernel
theorem d_Se_removeAll_2 : decode b_Se_removeAll 2 = .ok (.invokevirtual 21, 3) := by decide +kernel
theorem d_Se_removeAll_5 : decode b_Se_removeAll 5 = .ok (.ifCond .eq 27, 3) := by decide +kernel
theorem d_Se_removeAll_8 : decode b_Se_removeAll 8 = .ok (.iconst 0, 1) := by decide +kernel
theorem d_Se_removeAll_9 : decode b_Se_removeAll 9 = .ok (.istore_n 2, 1) := by decide +kernel
theorem d_Se_removeAll_10 : decode b_Se_removeAll 10 = .ok (.iload_n 2, 1) := by decide +kernel
theorem d_Se_removeAll_11 : decode b_Se_removeAll 11 = .ok (.iconst 4, 1) := by decide +kernel
theorem d_Se_removeAll_12 : decode b_Se_removeAll 12 = .ok (.if_icmp .ge 20, 3) := by decide +kernel
theorem d_Se_removeAll_15 : decode b_Se_removeAll 15 = .ok (.aload_n 0, 1) := by decide +kernel
theorem d_Se_removeAll_16 : decode b_Se_removeAll 16 = .ok (.getfield 17, 3) := by decide +kernel
theorem d_Se_removeAll_19 : decode b_Se_removeAll 19 = .ok (.iload_n 1, 1) := by decide +kernel
theorem d_Se_removeAll_20 : decode b_Se_removeAll 20 = .ok (.iconst 4, 1) := by decide +kernel
theorem d_Se_removeAll_21 : decode b_Se_removeAll 21 = .ok (.imul, 1) := by decide +kernel
theorem d_Se_removeAll_22 : decode b_Se_removeAll 22 = .ok (.iload_n 2, 1) := by decide +kernel
theorem d_Se_removeAll_23 : decode b_Se_removeAll 23 = .ok (.iadd, 1) := by decide +kernel
theorem d_Se_removeAll_24 : decode b_Se_removeAll 24 = .ok (.lconst 0, 1) := by decide +kernel
theorem d_Se_removeAll_25 : decode b_Se_removeAll 25 = .ok (.lastore, 1) := by decide +kernel
theorem d_Se_removeAll_26 : decode b_Se_removeAll 26 = .ok (.iinc 2 1, 3) := by decide +kernel
theorem d_Se_removeAll_29 : decode b_Se_removeAll 29 = .ok (.goto (-19), 3) := by decide +kernel
theorem d_Se_removeAll_32 : decode b_Se_removeAll 32 = .ok (.return_, 1) := by decide +kernel
end
section
def rm_hasSet : Room := { frames := 0, cells := 0, slots := 0, locals := 0 }
set_option maxHeartbeats 4000000 in
set_option maxRecDepth 100000 in
/-- Sets.hasSet, in range: true -/
theorem c_hasSet (l : Launch) (D : va_G) (c : Nat → ClassId) (h : Nat) (w : Nat) (n : Nat) (f : Nat → Int64) (i : Nat) (hn : n < 100000) (hi : i < n) : Met l y_Se_hasSet w_Se_hasSet rm_hasSet (va_Pc [.ref h, .int (zI ((i : Nat) : Int))] (fun U => va_P D vwCl [(h, .inr (3, [.ref w])), (w, .inl (c 2, 4 * n, .inr (.inl f)))] U.heap ∧ zK D c U)) (vp_Si (fun r => r = (zB true))) 0 0 (fun _ => False) := by
  refine Met.ofW (cc := b_Se_hasSet) (maxL := 2) (ret := (some .boolean)) (by decide) rfl ?_
  intro p e s m args below meth c0 s₁ B hml hv
  obtain ⟨rfl, hP, hKN⟩ := hv
  have hK := hKN.1
  have hN := hKN.2
  have hx := B.exec
  have hb := B.bytes
  have hr := B.returns
  have hts := atoms_spec (ws := w_Se_hasSet) B.pre
  have hw : ∀ {w : Cond}, w ∈ ALLW → w.before _ s = true := fun h => hts _ (List.mem_cons_of_mem _ h)
  have hown : s.vm.findClass R_Se = some m.cls := findClass_of_methodNamed B.named
  have hlocks := B.notSynchronized
  have hl := lv_entry ([.ref h, .int (zI ((i : Nat) : Int))]) (n := 2) (Nat.le_of_ble_eq_true rfl)
  rw [lg_entry_eq]
  generalize (lg_sl ([.ref h, .int (zI ((i : Nat) : Int))]) ++ List.replicate (2 - (lg_sl ([.ref h, .int (zI ((i : Nat) : Int))])).length) Slot.unset).toArray = ls at hl ⊢
  have hl : lv_has ls 2 [(0, .ref h), (1, .int (zI ((i : Nat) : Int)))] := hl
  generalize hQ : MQ below _ _ _ _ _ _ = Q
  refine lv_iload_n hx hb d_Se_hasSet_0 rfl (lv_at hl 1 rfl) ?_
  refine z_if_lt (tgt := 19) hx hb (by omega) d_Se_hasSet_1 (by decide) (fun hc_1 => absurd hc_1 (by omega)) (fun hc_1 => ?_)
  refine lv_iload_n hx hb d_Se_hasSet_4 rfl (lv_at hl 1 rfl) ?_
  refine lv_aload_n hx hb d_Se_hasSet_5 rfl (lv_at hl 0 rfl) ?_
  refine va_get (D := D) (ci := 3) (v := .ref w) (C := R_Se) (T := T_Se) (N := 1) hx hb hts (fun w h => List.mem_cons_of_mem _ (inA_Se w h)) hown hK hP 0 rfl rfl 0 (by decide) (hw k_Se_f17) (fun _ h9 => h9) rfl d_Se_hasSet_6 ?_
  refine z_alen hx hb hK hP 1 2 rfl rfl d_Se_hasSet_9 ?_
  refine z_top (v2 := .int (zI ((4 * n : Nat) : Int))) rfl ?_
  refine lv_iconst (v := zI 4) hx hb d_Se_hasSet_10 (by decide) ?_
  refine lv_idiv hx hb d_Se_hasSet_11 (by decide) ?_
  refine z_top (v2 := .int (zI ((n : Nat) : Int))) (congrArg Value.int (z_div4 _ (by omega))) ?_
  refine z_icmp_ge (tgt := 19) hx hb (by omega) d_Se_hasSet_12 (by decide) (fun hc_12 => absurd hc_12 (by omega)) (fun hc_12 => ?_)
  refine lv_iconst (v := zI 1) hx hb d_Se_hasSet_15 (by decide) ?_
  refine lv_goto (tgt := 20) hx hb d_Se_hasSet_16 (by decide) ?_
  subst hQ
  exact W.zret (ty := .boolean) (v := (zI 1)) hx hb hr (by decide) (fun t9 ht hW => ⟨_, rfl, (by decide), ht⟩) (fun q hq => absurd hq List.not_mem_nil) d_Se_hasSet_20

def rm_hasPlace : Room := { frames := 1, cells := 0, slots := 0, locals := 21 }
set_option maxHeartbeats 4000000 in
set_option maxRecDepth 100000 in
/-- Sets.hasPlace, in range: true -/
theorem c_hasPlace (l : Launch) (D : va_G) (c : Nat → ClassId) (h : Nat) (w : Nat) (n : Nat) (f : Nat → Int64) (i : Nat) (o : Nat) (hn : n < 100000) (hi : i < n) (ho : o < 256) : Met l y_Se_hasPlace w_Se_hasPlace rm_hasPlace (va_Pc [.ref h, .int (zI ((i : Nat) : Int)), .int (zI ((o : Nat) : Int))] (fun U => va_P D vwCl [(h, .inr (3, [.ref w])), (w, .inl (c 2, 4 * n, .inr (.inl f)))] U.heap ∧ zK D c U)) (vp_Si (fun r => r = (zB true))) 0 0 (fun _ => False) := by
  refine Met.ofW (cc := b_Se_hasPlace) (maxL := 3) (ret := (some .boolean)) (by decide) rfl ?_
  intro p e s m args below meth c0 s₁ B hml hv
  obtain ⟨rfl, hP, hKN⟩ := hv
  have hK := hKN.1
  have hN := hKN.2
  have hx := B.exec
  have hb := B.bytes
  have hr := B.returns
  have hts := atoms_spec (ws := w_Se_hasPlace) B.pre
  have hw : ∀ {w : Cond}, w ∈ ALLW → w.before _ s = true := fun h => hts _ (List.mem_cons_of_mem _ h)
  have hown : s.vm.findClass R_Se = some m.cls := findClass_of_methodNamed B.named
  have hlocks := B.notSynchronized
  have hl := lv_entry ([.ref h, .int (zI ((i : Nat) : Int)), .int (zI ((o : Nat) : Int))]) (n := 3) (Nat.le_of_ble_eq_true rfl)
  rw [lg_entry_eq]
  generalize (lg_sl ([.ref h, .int (zI ((i : Nat) : Int)), .int (zI ((o : Nat) : Int))]) ++ List.replicate (3 - (lg_sl ([.ref h, .int (zI ((i : Nat) : Int)), .int (zI ((o : Nat) : Int))])).length) Slot.unset).toArray = ls at hl ⊢
  have hl : lv_has ls 3 [(0, .ref h), (1, .int (zI ((i : Nat) : Int))), (2, .int (zI ((o : Nat) : Int)))] := hl
  generalize hQ : MQ below _ _ _ _ _ _ = Q
  refine lv_aload_n hx hb d_Se_hasPlace_0 rfl (lv_at hl 0 rfl) ?_
  refine lv_iload_n hx hb d_Se_hasPlace_1 rfl (lv_at hl 1 rfl) ?_
  have hPc : va_P D vwCl [(h, .inr (3, [.ref w])), (w, .inl (c 2, 4 * n, .inr (.inl f)))] s.heap := hP.sub (ws' := [(h, .inr (3, [.ref w])), (w, .inl (c 2, 4 * n, .inr (.inl f)))]) [0, 1] rfl
  refine vp_callSi (va_runV (rm := rm_hasSet) (As := [.int (zI ((i : Nat) : Int))]) (rest := []) ⟨hx, hb, hml, hown, hts⟩ (c_hasSet l D c h w n f i (by omega) (by omega)) (cwV 1 hts (gWV k_Se_m21 k_i_Se_hasSet k_v_Se_hasSet k_n_Se k_c_Se_hasSet) rfl rfl rfl (by decide +kernel) ⟨Nat.le_of_ble_eq_true rfl, Nat.le_of_ble_eq_true rfl⟩) ⟨zblind, va_recv hK hPc (ci := 3) (q0 := 0) rfl rfl, fun U hU hW => ⟨rfl, by rw [hU]; exact hPc, hKN.moved hW⟩⟩ rfl rfl hl.1 rfl (lv_room (Nat.le_of_ble_eq_true rfl)) d_Se_hasPlace_2 ⟨Nat.zero_le _, Nat.zero_le _⟩).run (fun r hr_1 => ?_)
  subst hr_1
  refine z_ifeq_B (tgt := 23) hx hb d_Se_hasPlace_5 (by decide) (fun hc_5 => absurd hc_5 (by simp_all)) (fun hc_5 => ?_)
  refine lv_iload_n hx hb d_Se_hasPlace_8 rfl (lv_at hl 2 rfl) ?_
  refine z_if_lt (tgt := 23) hx hb (by omega) d_Se_hasPlace_9 (by decide) (fun hc_9 => absurd hc_9 (by omega)) (fun hc_9 => ?_)
  refine lv_iload_n hx hb d_Se_hasPlace_12 rfl (lv_at hl 2 rfl) ?_
  refine lv_sipush (v := zI 255) hx hb d_Se_hasPlace_13 (by decide) ?_
  refine z_icmp_gt (tgt := 23) hx hb (by omega) d_Se_hasPlace_16 (by decide) (fun hc_16 => absurd hc_16 (by omega)) (fun hc_16 => ?_)
  refine lv_iconst (v := zI 1) hx hb d_Se_hasPlace_19 (by decide) ?_
  refine lv_goto (tgt := 24) hx hb d_Se_hasPlace_20 (by decide) ?_
  subst hQ
  exact W.zret (ty := .boolean) (v := (zI 1)) hx hb hr (by decide) (fun t9 ht hW => ⟨_, rfl, (by decide), ht⟩) (fun q hq => absurd hq List.not_mem_nil) d_Se_hasPlace_24

def rm_holds : Room := { frames := 2, cells := 0, slots := 0, locals := 43 }
set_option maxHeartbeats 4000000 in
set_option maxRecDepth 100000 in
/-- Sets.holds, in range: the bit -/
theorem c_holds (l : Launch) (D : va_G) (c : Nat → ClassId) (h : Nat) (w : Nat) (n : Nat) (f : Nat → Int64) (i : Nat) (o : Nat) (hn : n < 100000) (hi : i < n) (ho : o < 256) : Met l y_Se_holds w_Se_holds rm_holds (va_Pc [.ref h, .int (zI ((i : Nat) : Int)), .int (zI ((o : Nat) : Int))] (fun U => va_P D vwCl [(h, .inr (3, [.ref w])), (w, .inl (c 2, 4 * n, .inr (.inl f)))] U.heap ∧ zK D c U)) (vp_Si (fun r => r = (zB (zbt f i o)))) 0 0 (fun _ => False) := by
  refine Met.ofW (cc := b_Se_holds) (maxL := 3) (ret := (some .boolean)) (by decide) rfl ?_
  intro p e s m args below meth c0 s₁ B hml hv
  obtain ⟨rfl, hP, hKN⟩ := hv
  have hK := hKN.1
  have hN := hKN.2
  have hx := B.exec
  have hb := B.bytes
  have hr := B.returns
  have hts := atoms_spec (ws := w_Se_holds) B.pre
  have hw : ∀ {w : Cond}, w ∈ ALLW → w.before _ s = true := fun h => hts _ (List.mem_cons_of_mem _ h)
  have hown : s.vm.findClass R_Se = some m.cls := findClass_of_methodNamed B.named
  have hlocks := B.notSynchronized
  have hl := lv_entry ([.ref h, .int (zI ((i : Nat) : Int)), .int (zI ((o : Nat) : Int))]) (n := 3) (Nat.le_of_ble_eq_true rfl)
  rw [lg_entry_eq]
  generalize (lg_sl ([.ref h, .int (zI ((i : Nat) : Int)), .int (zI ((o : Nat) : Int))]) ++ List.replicate (3 - (lg_sl ([.ref h, .int (zI ((i : Nat) : Int)), .int (zI ((o : Nat) : Int))])).length) Slot.unset).toArray = ls at hl ⊢
  have hl : lv_has ls 3 [(0, .ref h), (1, .int (zI ((i : Nat) : Int))), (2, .int (zI ((o : Nat) : Int)))] := hl
  generalize hQ : MQ below _ _ _ _ _ _ = Q
  refine lv_aload_n hx hb d_Se_holds_0 rfl (lv_at hl 0 rfl) ?_
  refine lv_iload_n hx hb d_Se_holds_1 rfl (lv_at hl 1 rfl) ?_
  refine lv_iload_n hx hb d_Se_holds_2 rfl (lv_at hl 2 rfl) ?_
  have hPc : va_P D vwCl [(h, .inr (3, [.ref w])), (w, .inl (c 2, 4 * n, .inr (.inl f)))] s.heap := hP.sub (ws' := [(h, .inr (3, [.ref w])), (w, .inl (c 2, 4 * n, .inr (.inl f)))]) [0, 1] rfl
  refine vp_callSi (va_runV (rm := rm_hasPlace) (As := [.int (zI ((i : Nat) : Int)), .int (zI ((o : Nat) : Int))]) (rest := []) ⟨hx, hb, hml, hown, hts⟩ (c_hasPlace l D c h w n f i o (by omega) (by omega) (by omega)) (cwV 2 hts (gWV k_Se_m25 k_i_Se_hasPlace k_v_Se_hasPlace k_n_Se k_c_Se_hasPlace) rfl rfl rfl (by decide +kernel) ⟨Nat.le_of_ble_eq_true rfl, Nat.le_of_ble_eq_true rfl⟩) ⟨zblind, va_recv hK hPc (ci := 3) (q0 := 0) rfl rfl, fun U hU hW => ⟨rfl, by rw [hU]; exact hPc, hKN.moved hW⟩⟩ rfl rfl hl.1 rfl (lv_room (Nat.le_of_ble_eq_true rfl)) d_Se_holds_3 ⟨Nat.zero_le _, Nat.zero_le _⟩).run (fun r hr_1 => ?_)
  subst hr_1
  refine z_ifne_B (tgt := 11) hx hb d_Se_holds_6 (by decide) (fun hc_6 => ?_) (fun hc_6 => absurd hc_6 (by simp_all))
  refine lv_aload_n hx hb d_Se_holds_11 rfl (lv_at hl 0 rfl) ?_
  refine va_get (D := D) (ci := 3) (v := .ref w) (C := R_Se) (T := T_Se) (N := 1) hx hb hts (fun w h => List.mem_cons_of_mem _ (inA_Se w h)) hown hK hP 0 rfl rfl 0 (by decide) (hw k_Se_f17) (fun _ h9 => h9) rfl d_Se_holds_12 ?_
  refine lv_iload_n hx hb d_Se_holds_15 rfl (lv_at hl 1 rfl) ?_
  refine lv_iconst (v := zI 4) hx hb d_Se_holds_16 (by decide) ?_
  refine z_imul hx hb d_Se_holds_17 ?_
  refine lv_iload_n hx hb d_Se_holds_18 rfl (lv_at hl 2 rfl) ?_
  refine lv_bipush (v := zI 6) hx hb d_Se_holds_19 (by decide) ?_
  refine lv_ishr hx hb d_Se_holds_21 ?_
  refine z_top (v2 := .int (zI ((o / 64 : Nat) : Int))) (congrArg Value.int (z_shr6 _ (by omega))) ?_
  refine z_iadd hx hb d_Se_holds_22 ?_
  refine z_lald hx hb hK hP 1 2 rfl rfl (4 * i + o / 64) (by omega) (by omega) (by omega) d_Se_holds_23 ?_
  refine lv_iload_n hx hb d_Se_holds_24 rfl (lv_at hl 2 rfl) ?_
  refine lv_lushr (v := ((f (4 * i + o / 64)).toUInt64 >>> ((zI ((o : Nat) : Int)).toInt64.toUInt64 &&& Int64.toUInt64 63)).toInt64) hx hb d_Se_holds_25 rfl ?_
  refine lv_lconst (v := 1) hx hb d_Se_holds_26 (by decide) ?_
  refine lv_land hx hb d_Se_holds_27 ?_
  refine lv_lconst (v := 0) hx hb d_Se_holds_28 (by decide) ?_
  refine W.lcmp hx hb d_Se_holds_29 ?_
  refine z_top (v2 := .int (zB (zbt f i o))) (congrArg Value.int (z_bit _ _ ho)) ?_
  refine z_ifeq_B (tgt := 37) hx hb d_Se_holds_30 (by decide) (fun hc_30 => ?_) (fun hc_30 => ?_)
  · refine lv_iconst (v := zI 0) hx hb d_Se_holds_37 (by decide) ?_
    subst hQ
    exact W.zret (ty := .boolean) (v := (zI 0)) hx hb hr (by decide) (fun t9 ht hW => ⟨_, rfl, (by rw [hc_30]; decide), ht⟩) (fun q hq => absurd hq List.not_mem_nil) d_Se_holds_38
  · refine lv_iconst (v := zI 1) hx hb d_Se_holds_33 (by decide) ?_
    refine lv_goto (tgt := 38) hx hb d_Se_holds_34 (by decide) ?_
    subst hQ
    exact W.zret (ty := .boolean) (v := (zI 1)) hx hb hr (by decide) (fun t9 ht hW => ⟨_, rfl, (by rw [hc_30]; decide), ht⟩) (fun q hq => absurd hq List.not_mem_nil) d_Se_holds_38

def rm_add : Room := { frames := 2, cells := 0, slots := 0, locals := 43 }
set_option maxHeartbeats 4000000 in
set_option maxRecDepth 100000 in
/-- Sets.add, in range -/
theorem c_add (l : Launch) (D : va_G) (c : Nat → ClassId) (h : Nat) (w : Nat) (n : Nat) (f : Nat → Int64) (i : Nat) (o : Nat) (hn : n < 100000) (hi : i < n) (ho : o < 256) : Met l y_Se_add w_Se_add rm_add (va_Pc [.ref h, .int (zI ((i : Nat) : Int)), .int (zI ((o : Nat) : Int))] (fun U => (va_P D vwCl [(h, .inr (3, [.ref w])), (w, .inl (c 2, 4 * n, .inr (.inl f)))] U.heap ∧ va_D (fun _ => True) [(h, .inr (3, [.ref w])), (w, .inl (c 2, 4 * n, .inr (.inl f)))]) ∧ zK D c U)) (va_Qv (fun (u : Unit) => True) (fun (u : Unit) t9 => va_P D vwCl [(h, .inr (3, [.ref w])), (w, .inl (c 2, 4 * n, .inr (.inl (zadd f i o))))] t9.heap) (zA [(h, .inr (3, [.ref w])), (w, .inl (c 2, 4 * n, .inr (.inl f)))])) 0 0 (zA [(h, .inr (3, [.ref w])), (w, .inl (c 2, 4 * n, .inr (.inl f)))]) := by
  refine Met.ofW (cc := b_Se_add) (maxL := 3) (ret := none) (by decide) rfl ?_
  intro p e s m args below meth c0 s₁ B hml hv
  obtain ⟨rfl, ⟨hP, hD0⟩, hKN⟩ := hv
  have hK := hKN.1
  have hN := hKN.2
  have hx := B.exec
  have hb := B.bytes
  have hr := B.returns
  have hts := atoms_spec (ws := w_Se_add) B.pre
  have hw : ∀ {w : Cond}, w ∈ ALLW → w.before _ s = true := fun h => hts _ (List.mem_cons_of_mem _ h)
  have hown : s.vm.findClass R_Se = some m.cls := findClass_of_methodNamed B.named
  have hlocks := B.notSynchronized
  have hD : va_D (zA [(h, .inr (3, [.ref w])), (w, .inl (c 2, 4 * n, .inr (.inl f)))]) [(h, .inr (3, [.ref w])), (w, .inl (c 2, 4 * n, .inr (.inl f)))] := ⟨hD0.1, fun k q h => List.mem_map.mpr ⟨q, List.mem_of_getElem? h, rfl⟩⟩
  generalize hAe : zA [(h, .inr (3, [.ref w])), (w, .inl (c 2, 4 * n, .inr (.inl f)))] = A at hD ⊢
  have hS : va_S A s.heap s.heap [] := va_S.rf
  have hP : va_P D vwCl [(h, .inr (3, [.ref w])), (w, .inl (c 2, 4 * n, .inr (.inl f)))] s.heap := hP
  have hl := lv_entry ([.ref h, .int (zI ((i : Nat) : Int)), .int (zI ((o : Nat) : Int))]) (n := 3) (Nat.le_of_ble_eq_true rfl)
  rw [lg_entry_eq]
  generalize (lg_sl ([.ref h, .int (zI ((i : Nat) : Int)), .int (zI ((o : Nat) : Int))]) ++ List.replicate (3 - (lg_sl ([.ref h, .int (zI ((i : Nat) : Int)), .int (zI ((o : Nat) : Int))])).length) Slot.unset).toArray = ls at hl ⊢
  have hl : lv_has ls 3 [(0, .ref h), (1, .int (zI ((i : Nat) : Int))), (2, .int (zI ((o : Nat) : Int)))] := hl
  generalize hQ : MQ below _ _ _ _ _ _ = Q
  refine lv_aload_n hx hb d_Se_add_0 rfl (lv_at hl 0 rfl) ?_
  refine lv_iload_n hx hb d_Se_add_1 rfl (lv_at hl 1 rfl) ?_
  refine lv_iload_n hx hb d_Se_add_2 rfl (lv_at hl 2 rfl) ?_
  have hPc : va_P D vwCl [(h, .inr (3, [.ref w])), (w, .inl (c 2, 4 * n, .inr (.inl f)))] s.heap := hP.sub (ws' := [(h, .inr (3, [.ref w])), (w, .inl (c 2, 4 * n, .inr (.inl f)))]) [0, 1] rfl
  refine vp_callSi (va_runV (rm := rm_hasPlace) (As := [.int (zI ((i : Nat) : Int)), .int (zI ((o : Nat) : Int))]) (rest := []) ⟨hx, hb, hml, hown, hts⟩ (c_hasPlace l D c h w n f i o (by omega) (by omega) (by omega)) (cwV 2 hts (gWV k_Se_m25 k_i_Se_hasPlace k_v_Se_hasPlace k_n_Se k_c_Se_hasPlace) rfl rfl rfl (by decide +kernel) ⟨Nat.le_of_ble_eq_true rfl, Nat.le_of_ble_eq_true rfl⟩) ⟨zblind, va_recv hK hPc (ci := 3) (q0 := 0) rfl rfl, fun U hU hW => ⟨rfl, by rw [hU]; exact hPc, hKN.moved hW⟩⟩ rfl rfl hl.1 rfl (lv_room (Nat.le_of_ble_eq_true rfl)) d_Se_add_3 ⟨Nat.zero_le _, Nat.zero_le _⟩).run (fun r hr_1 => ?_)
  subst hr_1
  refine z_ifeq_B (tgt := 28) hx hb d_Se_add_6 (by decide) (fun hc_6 => absurd hc_6 (by simp_all)) (fun hc_6 => ?_)
  refine lv_aload_n hx hb d_Se_add_9 rfl (lv_at hl 0 rfl) ?_
  refine va_get (D := D) (ci := 3) (v := .ref w) (C := R_Se) (T := T_Se) (N := 1) hx hb hts (fun w h => List.mem_cons_of_mem _ (inA_Se w h)) hown hK hP 0 rfl rfl 0 (by decide) (hw k_Se_f17) (fun _ h9 => h9) rfl d_Se_add_10 ?_
  refine lv_iload_n hx hb d_Se_add_13 rfl (lv_at hl 1 rfl) ?_
  refine lv_iconst (v := zI 4) hx hb d_Se_add_14 (by decide) ?_
  refine z_imul hx hb d_Se_add_15 ?_
  refine lv_iload_n hx hb d_Se_add_16 rfl (lv_at hl 2 rfl) ?_
  refine lv_bipush (v := zI 6) hx hb d_Se_add_17 (by decide) ?_
  refine lv_ishr hx hb d_Se_add_19 ?_
  refine z_top (v2 := .int (zI ((o / 64 : Nat) : Int))) (congrArg Value.int (z_shr6 _ (by omega))) ?_
  refine z_iadd hx hb d_Se_add_20 ?_
  refine lv_dup2_11 hx hb d_Se_add_21 rfl rfl ?_
  refine z_lald hx hb hK hP 1 2 rfl rfl (4 * i + o / 64) (by omega) (by omega) (by omega) d_Se_add_22 ?_
  refine lv_lconst (v := 1) hx hb d_Se_add_23 (by decide) ?_
  refine lv_iload_n hx hb d_Se_add_24 rfl (lv_at hl 2 rfl) ?_
  refine lv_lshl (v := (1 : Int64) <<< ((zI ((o : Nat) : Int)).toInt64 &&& 63)) hx hb d_Se_add_25 rfl ?_
  refine lv_lor hx hb d_Se_add_26 ?_
  refine z_last hx hb hK hP hD hS 1 2 rfl rfl (4 * i + o / 64) (by omega) (by omega) (by omega) d_Se_add_27 (fun H locs hP hD hS => ?_)
  have hP : va_P D vwCl [(h, .inr (3, [.ref w])), (w, .inl (c 2, 4 * n, .inr (.inl (vp_updL f (4 * i + o / 64) ((f (4 * i + o / 64)) ||| ((1 : Int64) <<< ((zI ((o : Nat) : Int)).toInt64 &&& 63)))))))] H := hP
  have hD : va_D A [(h, .inr (3, [.ref w])), (w, .inl (c 2, 4 * n, .inr (.inl (vp_updL f (4 * i + o / 64) ((f (4 * i + o / 64)) ||| ((1 : Int64) <<< ((zI ((o : Nat) : Int)).toInt64 &&& 63)))))))] := hD
  subst hQ
  exact W.vret hx hb hr (fun t9 ht hW => ⟨⟨(), rfl, trivial, by show va_P _ _ _ t9.heap; rw [ht]; exact hP⟩, hS.F ht⟩) hS.2.2 d_Se_add_28

def rm_removeAll : Room := { frames := 1, cells := 0, slots := 0, locals := 21 }
set_option maxHeartbeats 4000000 in
set_option maxRecDepth 100000 in
/-- Sets.removeAll, in range -/
theorem c_removeAll (l : Launch) (D : va_G) (c : Nat → ClassId) (h : Nat) (w : Nat) (n : Nat) (f : Nat → Int64) (i : Nat) (hn : n < 100000) (hi : i < n) : Met l y_Se_removeAll w_Se_removeAll rm_removeAll (va_Pc [.ref h, .int (zI ((i : Nat) : Int))] (fun U => (va_P D vwCl [(h, .inr (3, [.ref w])), (w, .inl (c 2, 4 * n, .inr (.inl f)))] U.heap ∧ va_D (fun _ => True) [(h, .inr (3, [.ref w])), (w, .inl (c 2, 4 * n, .inr (.inl f)))]) ∧ zK D c U)) (va_Qv (fun (u : Unit) => True) (fun (u : Unit) t9 => va_P D vwCl [(h, .inr (3, [.ref w])), (w, .inl (c 2, 4 * n, .inr (.inl (zclr f i))))] t9.heap) (zA [(h, .inr (3, [.ref w])), (w, .inl (c 2, 4 * n, .inr (.inl f)))])) 0 0 (zA [(h, .inr (3, [.ref w])), (w, .inl (c 2, 4 * n, .inr (.inl f)))]) := by
  refine Met.ofW (cc := b_Se_removeAll) (maxL := 3) (ret := none) (by decide) rfl ?_
  intro p e s m args below meth c0 s₁ B hml hv
  obtain ⟨rfl, ⟨hP, hD0⟩, hKN⟩ := hv
  have hK := hKN.1
  have hN := hKN.2
  have hx := B.exec
  have hb := B.bytes
  have hr := B.returns
  have hts := atoms_spec (ws := w_Se_removeAll) B.pre
  have hw : ∀ {w : Cond}, w ∈ ALLW → w.before _ s = true := fun h => hts _ (List.mem_cons_of_mem _ h)
  have hown : s.vm.findClass R_Se = some m.cls := findClass_of_methodNamed B.named
  have hlocks := B.notSynchronized
  have hD : va_D (zA [(h, .inr (3, [.ref w])), (w, .inl (c 2, 4 * n, .inr (.inl f)))]) [(h, .inr (3, [.ref w])), (w, .inl (c 2, 4 * n, .inr (.inl f)))] := ⟨hD0.1, fun k q h => List.mem_map.mpr ⟨q, List.mem_of_getElem? h, rfl⟩⟩
  generalize hAe : zA [(h, .inr (3, [.ref w])), (w, .inl (c 2, 4 * n, .inr (.inl f)))] = A at hD ⊢
  have hS : va_S A s.heap s.heap [] := va_S.rf
  have hP : va_P D vwCl [(h, .inr (3, [.ref w])), (w, .inl (c 2, 4 * n, .inr (.inl f)))] s.heap := hP
  have hl := lv_entry ([.ref h, .int (zI ((i : Nat) : Int))]) (n := 3) (Nat.le_of_ble_eq_true rfl)
  rw [lg_entry_eq]
  generalize (lg_sl ([.ref h, .int (zI ((i : Nat) : Int))]) ++ List.replicate (3 - (lg_sl ([.ref h, .int (zI ((i : Nat) : Int))])).length) Slot.unset).toArray = ls at hl ⊢
  have hl : lv_has ls 3 [(0, .ref h), (1, .int (zI ((i : Nat) : Int)))] := hl
  generalize hQ : MQ below _ _ _ _ _ _ = Q
  refine lv_aload_n hx hb d_Se_removeAll_0 rfl (lv_at hl 0 rfl) ?_
  refine lv_iload_n hx hb d_Se_removeAll_1 rfl (lv_at hl 1 rfl) ?_
  have hPc : va_P D vwCl [(h, .inr (3, [.ref w])), (w, .inl (c 2, 4 * n, .inr (.inl f)))] s.heap := hP.sub (ws' := [(h, .inr (3, [.ref w])), (w, .inl (c 2, 4 * n, .inr (.inl f)))]) [0, 1] rfl
  refine vp_callSi (va_runV (rm := rm_hasSet) (As := [.int (zI ((i : Nat) : Int))]) (rest := []) ⟨hx, hb, hml, hown, hts⟩ (c_hasSet l D c h w n f i (by omega) (by omega)) (cwV 1 hts (gWV k_Se_m21 k_i_Se_hasSet k_v_Se_hasSet k_n_Se k_c_Se_hasSet) rfl rfl rfl (by decide +kernel) ⟨Nat.le_of_ble_eq_true rfl, Nat.le_of_ble_eq_true rfl⟩) ⟨zblind, va_recv hK hPc (ci := 3) (q0 := 0) rfl rfl, fun U hU hW => ⟨rfl, by rw [hU]; exact hPc, hKN.moved hW⟩⟩ rfl rfl hl.1 rfl (lv_room (Nat.le_of_ble_eq_true rfl)) d_Se_removeAll_2 ⟨Nat.zero_le _, Nat.zero_le _⟩).run (fun r hr_1 => ?_)
  subst hr_1
  refine z_ifeq_B (tgt := 32) hx hb d_Se_removeAll_5 (by decide) (fun hc_5 => absurd hc_5 (by simp_all)) (fun hc_5 => ?_)
  refine lv_iconst (v := zI 0) hx hb d_Se_removeAll_8 (by decide) ?_
  refine lv_istore_n (lv' := [(2, .int (zI 0)), (0, .ref h), (1, .int (zI ((i : Nat) : Int)))]) hx hb d_Se_removeAll_9 rfl hl (by decide) rfl (fun ls hl => ?_)
  have lp_10 : ∀ (k_ : Nat) (v : Nat), 4 - v < k_ → (v ≤ 4) → ∀ (H : Heap) (locs : List Loc), va_P D vwCl [(h, .inr (3, [.ref w])), (w, .inl (c 2, 4 * n, .inr (.inl (fun j => if 4 * i ≤ j ∧ j < 4 * i + v then 0 else f j))))] H → va_D A [(h, .inr (3, [.ref w])), (w, .inl (c 2, 4 * n, .inr (.inl (fun j => if 4 * i ≤ j ∧ j < 4 * i + v then 0 else f j))))] → va_S A s.heap H locs → ∀ ls : Array Slot, lv_has ls 3 [(2, .int (zI ((v : Nat) : Int))), (0, .ref h), (1, .int (zI ((i : Nat) : Int)))] → W p l e (headSpec w_Se_removeAll rm_removeAll).room s m ([.ref h, .int (zI ((i : Nat) : Int))] : List Value).toArray below meth c0 H locs 0 0 Q (F0 m 10 ls []) := by
    intro k_
    induction k_ with
    | zero => intro v hk_; exact absurd hk_ (Nat.not_lt_zero _)
    | succ k_ ih_10 =>
      intro v hk_ hv H locs hP hD hS ls hl
      refine lv_iload_n hx hb d_Se_removeAll_10 rfl (lv_at hl 0 rfl) ?_
      refine lv_iconst (v := zI 4) hx hb d_Se_removeAll_11 (by decide) ?_
      refine z_icmp_ge (tgt := 32) hx hb (by omega) d_Se_removeAll_12 (by decide) (fun hc_12 => ?_) (fun hc_12 => ?_)
      · obtain rfl : v = 4 := by omega
        subst hQ
        exact W.vret hx hb hr (fun t9 ht hW => ⟨⟨(), rfl, trivial, by show va_P _ _ _ t9.heap; rw [ht]; exact hP⟩, hS.F ht⟩) hS.2.2 d_Se_removeAll_32
      · refine lv_aload_n hx hb d_Se_removeAll_15 rfl (lv_at hl 1 rfl) ?_
        refine va_get (D := D) (ci := 3) (v := .ref w) (C := R_Se) (T := T_Se) (N := 1) hx hb hts (fun w h => List.mem_cons_of_mem _ (inA_Se w h)) hown hK hP 0 rfl rfl 0 (by decide) (hw k_Se_f17) (fun _ h9 => h9) rfl d_Se_removeAll_16 ?_
        refine lv_iload_n hx hb d_Se_removeAll_19 rfl (lv_at hl 2 rfl) ?_
        refine lv_iconst (v := zI 4) hx hb d_Se_removeAll_20 (by decide) ?_
        refine z_imul hx hb d_Se_removeAll_21 ?_
        refine lv_iload_n hx hb d_Se_removeAll_22 rfl (lv_at hl 0 rfl) ?_
        refine z_iadd hx hb d_Se_removeAll_23 ?_
        refine lv_lconst (v := 0) hx hb d_Se_removeAll_24 (by decide) ?_
        refine z_last hx hb hK hP hD hS 1 2 rfl rfl (4 * i + v) (by omega) (by omega) (by omega) d_Se_removeAll_25 (fun H locs hP hD hS => ?_)
        have hP : va_P D vwCl [(h, .inr (3, [.ref w])), (w, .inl (c 2, 4 * n, .inr (.inl (vp_updL (fun j => if 4 * i ≤ j ∧ j < 4 * i + v then 0 else f j) (4 * i + v) 0))))] H := hP
        have hD : va_D A [(h, .inr (3, [.ref w])), (w, .inl (c 2, 4 * n, .inr (.inl (vp_updL (fun j => if 4 * i ≤ j ∧ j < 4 * i + v then 0 else f j) (4 * i + v) 0))))] := hD
        refine lv_iinc (v := zI ((v + 1 : Nat) : Int)) (lv' := [(2, .int (zI ((v + 1 : Nat) : Int))), (0, .ref h), (1, .int (zI ((i : Nat) : Int)))]) hx hb d_Se_removeAll_26 hl (k := 0) rfl (z_incN _ 1) (by decide) rfl (fun ls hl => ?_)
        refine lv_goto (tgt := 10) hx hb d_Se_removeAll_29 (by decide) ?_
        exact ih_10 (v + 1) (by omega) (by omega) _ _ (by rw [← z_clr_step]; exact hP) (z_D_congr (by rfl) hD) hS _ (lv_sub hl [0, 1, 2] rfl)
  exact lp_10 _ 0 (Nat.lt_succ_self _) (by omega) _ _ (by rw [show (fun j => if 4 * i ≤ j ∧ j < 4 * i + 0 then (0 : Int64) else f j) = f from funext fun j => if_neg (by omega)]; exact hP) (z_D_congr (by rfl) hD) hS _ (lv_sub hl [0, 1, 2] rfl)

def rm_addAll : Room := { frames := 1, cells := 0, slots := 0, locals := 21 }
set_option maxHeartbeats 4000000 in
set_option maxRecDepth 100000 in
/-- Sets.addAll, another object, in range -/
theorem c_addAll (l : Launch) (D : va_G) (c : Nat → ClassId) (h : Nat) (w : Nat) (n : Nat) (f : Nat → Int64) (i : Nat) (h2 : Nat) (w2 : Nat) (n2 : Nat) (g : Nat → Int64) (k : Nat) (hn : n < 100000) (hi : i < n) (hn2 : n2 < 100000) (hk : k < n2) : Met l y_Se_addAll w_Se_addAll rm_addAll (va_Pc [.ref h, .int (zI ((i : Nat) : Int)), .ref h2, .int (zI ((k : Nat) : Int))] (fun U => (va_P D vwCl [(h, .inr (3, [.ref w])), (w, .inl (c 2, 4 * n, .inr (.inl f))), (h2, .inr (3, [.ref w2])), (w2, .inl (c 2, 4 * n2, .inr (.inl g)))] U.heap ∧ va_D (fun _ => True) [(h, .inr (3, [.ref w])), (w, .inl (c 2, 4 * n, .inr (.inl f))), (h2, .inr (3, [.ref w2])), (w2, .inl (c 2, 4 * n2, .inr (.inl g)))]) ∧ zK D c U)) (va_Qv (fun (u : Unit) => True) (fun (u : Unit) t9 => va_P D vwCl [(h, .inr (3, [.ref w])), (w, .inl (c 2, 4 * n, .inr (.inl (zor f i g k)))), (h2, .inr (3, [.ref w2])), (w2, .inl (c 2, 4 * n2, .inr (.inl g)))] t9.heap) (zA [(h, .inr (3, [.ref w])), (w, .inl (c 2, 4 * n, .inr (.inl f))), (h2, .inr (3, [.ref w2])), (w2, .inl (c 2, 4 * n2, .inr (.inl g)))])) 0 0 (zA [(h, .inr (3, [.ref w])), (w, .inl (c 2, 4 * n, .inr (.inl f))), (h2, .inr (3, [.ref w2])), (w2, .inl (c 2, 4 * n2, .inr (.inl g)))]) := by
  refine Met.ofW (cc := b_Se_addAll) (maxL := 5) (ret := none) (by decide) rfl ?_
  intro p e s m args below meth c0 s₁ B hml hv
  obtain ⟨rfl, ⟨hP, hD0⟩, hKN⟩ := hv
  have hK := hKN.1
  have hN := hKN.2
  have hx := B.exec
  have hb := B.bytes
  have hr := B.returns
  have hts := atoms_spec (ws := w_Se_addAll) B.pre
  have hw : ∀ {w : Cond}, w ∈ ALLW → w.before _ s = true := fun h => hts _ (List.mem_cons_of_mem _ h)
  have hown : s.vm.findClass R_Se = some m.cls := findClass_of_methodNamed B.named
  have hlocks := B.notSynchronized
  have hD : va_D (zA [(h, .inr (3, [.ref w])), (w, .inl (c 2, 4 * n, .inr (.inl f))), (h2, .inr (3, [.ref w2])), (w2, .inl (c 2, 4 * n2, .inr (.inl g)))]) [(h, .inr (3, [.ref w])), (w, .inl (c 2, 4 * n, .inr (.inl f))), (h2, .inr (3, [.ref w2])), (w2, .inl (c 2, 4 * n2, .inr (.inl g)))] := ⟨hD0.1, fun k q h => List.mem_map.mpr ⟨q, List.mem_of_getElem? h, rfl⟩⟩
  generalize hAe : zA [(h, .inr (3, [.ref w])), (w, .inl (c 2, 4 * n, .inr (.inl f))), (h2, .inr (3, [.ref w2])), (w2, .inl (c 2, 4 * n2, .inr (.inl g)))] = A at hD ⊢
  have hS : va_S A s.heap s.heap [] := va_S.rf
  have hP : va_P D vwCl [(h, .inr (3, [.ref w])), (w, .inl (c 2, 4 * n, .inr (.inl f))), (h2, .inr (3, [.ref w2])), (w2, .inl (c 2, 4 * n2, .inr (.inl g)))] s.heap := hP
  have hl := lv_entry ([.ref h, .int (zI ((i : Nat) : Int)), .ref h2, .int (zI ((k : Nat) : Int))]) (n := 5) (Nat.le_of_ble_eq_true rfl)
  rw [lg_entry_eq]
  generalize (lg_sl ([.ref h, .int (zI ((i : Nat) : Int)), .ref h2, .int (zI ((k : Nat) : Int))]) ++ List.replicate (5 - (lg_sl ([.ref h, .int (zI ((i : Nat) : Int)), .ref h2, .int (zI ((k : Nat) : Int))])).length) Slot.unset).toArray = ls at hl ⊢
  have hl : lv_has ls 5 [(0, .ref h), (1, .int (zI ((i : Nat) : Int))), (2, .ref h2), (3, .int (zI ((k : Nat) : Int)))] := hl
  generalize hQ : MQ below _ _ _ _ _ _ = Q
  refine lv_aload_n hx hb d_Se_addAll_0 rfl (lv_at hl 0 rfl) ?_
  refine lv_iload_n hx hb d_Se_addAll_1 rfl (lv_at hl 1 rfl) ?_
  have hPc : va_P D vwCl [(h, .inr (3, [.ref w])), (w, .inl (c 2, 4 * n, .inr (.inl f)))] s.heap := hP.sub (ws' := [(h, .inr (3, [.ref w])), (w, .inl (c 2, 4 * n, .inr (.inl f)))]) [0, 1] rfl
  refine vp_callSi (va_runV (rm := rm_hasSet) (As := [.int (zI ((i : Nat) : Int))]) (rest := []) ⟨hx, hb, hml, hown, hts⟩ (c_hasSet l D c h w n f i (by omega) (by omega)) (cwV 1 hts (gWV k_Se_m21 k_i_Se_hasSet k_v_Se_hasSet k_n_Se k_c_Se_hasSet) rfl rfl rfl (by decide +kernel) ⟨Nat.le_of_ble_eq_true rfl, Nat.le_of_ble_eq_true rfl⟩) ⟨zblind, va_recv hK hPc (ci := 3) (q0 := 0) rfl rfl, fun U hU hW => ⟨rfl, by rw [hU]; exact hPc, hKN.moved hW⟩⟩ rfl rfl hl.1 rfl (lv_room (Nat.le_of_ble_eq_true rfl)) d_Se_addAll_2 ⟨Nat.zero_le _, Nat.zero_le _⟩).run (fun r hr_1 => ?_)
  subst hr_1
  refine z_ifeq_B (tgt := 56) hx hb d_Se_addAll_5 (by decide) (fun hc_5 => absurd hc_5 (by simp_all)) (fun hc_5 => ?_)
  refine lv_aload_n hx hb d_Se_addAll_8 rfl (lv_at hl 2 rfl) ?_
  refine lv_iload_n hx hb d_Se_addAll_9 rfl (lv_at hl 3 rfl) ?_
  have hPc : va_P D vwCl [(h2, .inr (3, [.ref w2])), (w2, .inl (c 2, 4 * n2, .inr (.inl g)))] s.heap := hP.sub (ws' := [(h2, .inr (3, [.ref w2])), (w2, .inl (c 2, 4 * n2, .inr (.inl g)))]) [2, 3] rfl
  refine vp_callSi (va_runV (rm := rm_hasSet) (As := [.int (zI ((k : Nat) : Int))]) (rest := []) ⟨hx, hb, hml, hown, hts⟩ (c_hasSet l D c h2 w2 n2 g k (by omega) (by omega)) (cwV 1 hts (gWV k_Se_m21 k_i_Se_hasSet k_v_Se_hasSet k_n_Se k_c_Se_hasSet) rfl rfl rfl (by decide +kernel) ⟨Nat.le_of_ble_eq_true rfl, Nat.le_of_ble_eq_true rfl⟩) ⟨zblind, va_recv hK hPc (ci := 3) (q0 := 0) rfl rfl, fun U hU hW => ⟨rfl, by rw [hU]; exact hPc, hKN.moved hW⟩⟩ rfl rfl hl.1 rfl (lv_room (Nat.le_of_ble_eq_true rfl)) d_Se_addAll_10 ⟨Nat.zero_le _, Nat.zero_le _⟩).run (fun r hr_2 => ?_)
  subst hr_2
  refine z_ifeq_B (tgt := 56) hx hb d_Se_addAll_13 (by decide) (fun hc_13 => absurd hc_13 (by simp_all)) (fun hc_13 => ?_)
  refine lv_iconst (v := zI 0) hx hb d_Se_addAll_16 (by decide) ?_
  refine lv_istore (lv' := [(4, .int (zI 0)), (0, .ref h), (1, .int (zI ((i : Nat) : Int))), (2, .ref h2), (3, .int (zI ((k : Nat) : Int)))]) hx hb d_Se_addAll_17 hl (by decide) rfl (fun ls hl => ?_)
  have lp_19 : ∀ (k_ : Nat) (v : Nat), 4 - v < k_ → (v ≤ 4) → ∀ (H : Heap) (locs : List Loc), va_P D vwCl [(h, .inr (3, [.ref w])), (w, .inl (c 2, 4 * n, .inr (.inl (fun j => if 4 * i ≤ j ∧ j < 4 * i + v then f j ||| g (4 * k + (j - 4 * i)) else f j)))), (h2, .inr (3, [.ref w2])), (w2, .inl (c 2, 4 * n2, .inr (.inl g)))] H → va_D A [(h, .inr (3, [.ref w])), (w, .inl (c 2, 4 * n, .inr (.inl (fun j => if 4 * i ≤ j ∧ j < 4 * i + v then f j ||| g (4 * k + (j - 4 * i)) else f j)))), (h2, .inr (3, [.ref w2])), (w2, .inl (c 2, 4 * n2, .inr (.inl g)))] → va_S A s.heap H locs → ∀ ls : Array Slot, lv_has ls 5 [(4, .int (zI ((v : Nat) : Int))), (0, .ref h), (1, .int (zI ((i : Nat) : Int))), (2, .ref h2), (3, .int (zI ((k : Nat) : Int)))] → W p l e (headSpec w_Se_addAll rm_addAll).room s m ([.ref h, .int (zI ((i : Nat) : Int)), .ref h2, .int (zI ((k : Nat) : Int))] : List Value).toArray below meth c0 H locs 0 0 Q (F0 m 19 ls []) := by
    intro k_
    induction k_ with
    | zero => intro v hk_; exact absurd hk_ (Nat.not_lt_zero _)
    | succ k_ ih_19 =>
      intro v hk_ hv H locs hP hD hS ls hl
      refine lv_iload hx hb d_Se_addAll_19 (lv_at hl 0 rfl) ?_
      refine lv_iconst (v := zI 4) hx hb d_Se_addAll_21 (by decide) ?_
      refine z_icmp_ge (tgt := 56) hx hb (by omega) d_Se_addAll_22 (by decide) (fun hc_22 => ?_) (fun hc_22 => ?_)
      · obtain rfl : v = 4 := by omega
        subst hQ
        exact W.vret hx hb hr (fun t9 ht hW => ⟨⟨(), rfl, trivial, by show va_P _ _ _ t9.heap; rw [ht]; exact hP⟩, hS.F ht⟩) hS.2.2 d_Se_addAll_56
      · refine lv_aload_n hx hb d_Se_addAll_25 rfl (lv_at hl 1 rfl) ?_
        refine va_get (D := D) (ci := 3) (v := .ref w) (C := R_Se) (T := T_Se) (N := 1) hx hb hts (fun w h => List.mem_cons_of_mem _ (inA_Se w h)) hown hK hP 0 rfl rfl 0 (by decide) (hw k_Se_f17) (fun _ h9 => h9) rfl d_Se_addAll_26 ?_
        refine lv_iload_n hx hb d_Se_addAll_29 rfl (lv_at hl 2 rfl) ?_
        refine lv_iconst (v := zI 4) hx hb d_Se_addAll_30 (by decide) ?_
        refine z_imul hx hb d_Se_addAll_31 ?_
        refine lv_iload hx hb d_Se_addAll_32 (lv_at hl 0 rfl) ?_
        refine z_iadd hx hb d_Se_addAll_34 ?_
        refine lv_dup2_11 hx hb d_Se_addAll_35 rfl rfl ?_
        refine z_lald hx hb hK hP 1 2 rfl rfl (4 * i + v) (by omega) (by omega) (by omega) d_Se_addAll_36 ?_
        refine lv_aload_n hx hb d_Se_addAll_37 rfl (lv_at hl 3 rfl) ?_
        refine va_get (D := D) (ci := 3) (v := .ref w2) (C := R_Se) (T := T_Se) (N := 1) hx hb hts (fun w h => List.mem_cons_of_mem _ (inA_Se w h)) hown hK hP 2 rfl rfl 0 (by decide) (hw k_Se_f17) (fun _ h9 => h9) rfl d_Se_addAll_38 ?_
        refine lv_iload_n hx hb d_Se_addAll_41 rfl (lv_at hl 4 rfl) ?_
        refine lv_iconst (v := zI 4) hx hb d_Se_addAll_42 (by decide) ?_
        refine z_imul hx hb d_Se_addAll_43 ?_
        refine lv_iload hx hb d_Se_addAll_44 (lv_at hl 0 rfl) ?_
        refine z_iadd hx hb d_Se_addAll_46 ?_
        refine z_lald hx hb hK hP 3 2 rfl rfl (4 * k + v) (by omega) (by omega) (by omega) d_Se_addAll_47 ?_
        refine lv_lor hx hb d_Se_addAll_48 ?_
        refine z_last hx hb hK hP hD hS 1 2 rfl rfl (4 * i + v) (by omega) (by omega) (by omega) d_Se_addAll_49 (fun H locs hP hD hS => ?_)
        have hP : va_P D vwCl [(h, .inr (3, [.ref w])), (w, .inl (c 2, 4 * n, .inr (.inl (vp_updL (fun j => if 4 * i ≤ j ∧ j < 4 * i + v then f j ||| g (4 * k + (j - 4 * i)) else f j) (4 * i + v) (((fun j => if 4 * i ≤ j ∧ j < 4 * i + v then f j ||| g (4 * k + (j - 4 * i)) else f j) (4 * i + v)) ||| (g (4 * k + v))))))), (h2, .inr (3, [.ref w2])), (w2, .inl (c 2, 4 * n2, .inr (.inl g)))] H := hP
        have hD : va_D A [(h, .inr (3, [.ref w])), (w, .inl (c 2, 4 * n, .inr (.inl (vp_updL (fun j => if 4 * i ≤ j ∧ j < 4 * i + v then f j ||| g (4 * k + (j - 4 * i)) else f j) (4 * i + v) (((fun j => if 4 * i ≤ j ∧ j < 4 * i + v then f j ||| g (4 * k + (j - 4 * i)) else f j) (4 * i + v)) ||| (g (4 * k + v))))))), (h2, .inr (3, [.ref w2])), (w2, .inl (c 2, 4 * n2, .inr (.inl g)))] := hD
        refine lv_iinc (v := zI ((v + 1 : Nat) : Int)) (lv' := [(4, .int (zI ((v + 1 : Nat) : Int))), (0, .ref h), (1, .int (zI ((i : Nat) : Int))), (2, .ref h2), (3, .int (zI ((k : Nat) : Int)))]) hx hb d_Se_addAll_50 hl (k := 0) rfl (z_incN _ 1) (by decide) rfl (fun ls hl => ?_)
        refine lv_goto (tgt := 19) hx hb d_Se_addAll_53 (by decide) ?_
        exact ih_19 (v + 1) (by omega) (by omega) _ _ (by rw [← z_or_step]; dsimp only at hP; rw [if_neg (show ¬ (4 * i ≤ 4 * i + v ∧ 4 * i + v < 4 * i + v) by omega)] at hP; exact hP) (z_D_congr (by rfl) hD) hS _ (lv_sub hl [0, 1, 2, 3, 4] rfl)
  exact lp_19 _ 0 (Nat.lt_succ_self _) (by omega) _ _ (by rw [show (fun j => if 4 * i ≤ j ∧ j < 4 * i + 0 then f j ||| g (4 * k + (j - 4 * i)) else f j) = f from funext fun j => if_neg (by omega)]; exact hP) (z_D_congr (by rfl) hD) hS _ (lv_sub hl [0, 1, 2, 3, 4] rfl)

def rm_addSelf : Room := { frames := 1, cells := 0, slots := 0, locals := 21 }
set_option maxHeartbeats 4000000 in
set_option maxRecDepth 100000 in
/-- Sets.addAll of a set of its own, in range -/
theorem c_addSelf (l : Launch) (D : va_G) (c : Nat → ClassId) (h : Nat) (w : Nat) (n : Nat) (f : Nat → Int64) (i : Nat) (k : Nat) (hn : n < 100000) (hi : i < n) (hk : k < n) : Met l y_Se_addAll w_Se_addAll rm_addSelf (va_Pc [.ref h, .int (zI ((i : Nat) : Int)), .ref h, .int (zI ((k : Nat) : Int))] (fun U => (va_P D vwCl [(h, .inr (3, [.ref w])), (w, .inl (c 2, 4 * n, .inr (.inl f)))] U.heap ∧ va_D (fun _ => True) [(h, .inr (3, [.ref w])), (w, .inl (c 2, 4 * n, .inr (.inl f)))]) ∧ zK D c U)) (va_Qv (fun (u : Unit) => True) (fun (u : Unit) t9 => va_P D vwCl [(h, .inr (3, [.ref w])), (w, .inl (c 2, 4 * n, .inr (.inl (zor f i f k))))] t9.heap) (zA [(h, .inr (3, [.ref w])), (w, .inl (c 2, 4 * n, .inr (.inl f)))])) 0 0 (zA [(h, .inr (3, [.ref w])), (w, .inl (c 2, 4 * n, .inr (.inl f)))]) := by
  refine Met.ofW (cc := b_Se_addAll) (maxL := 5) (ret := none) (by decide) rfl ?_
  intro p e s m args below meth c0 s₁ B hml hv
  obtain ⟨rfl, ⟨hP, hD0⟩, hKN⟩ := hv
  have hK := hKN.1
  have hN := hKN.2
  have hx := B.exec
  have hb := B.bytes
  have hr := B.returns
  have hts := atoms_spec (ws := w_Se_addAll) B.pre
  have hw : ∀ {w : Cond}, w ∈ ALLW → w.before _ s = true := fun h => hts _ (List.mem_cons_of_mem _ h)
  have hown : s.vm.findClass R_Se = some m.cls := findClass_of_methodNamed B.named
  have hlocks := B.notSynchronized
  have hD : va_D (zA [(h, .inr (3, [.ref w])), (w, .inl (c 2, 4 * n, .inr (.inl f)))]) [(h, .inr (3, [.ref w])), (w, .inl (c 2, 4 * n, .inr (.inl f)))] := ⟨hD0.1, fun k q h => List.mem_map.mpr ⟨q, List.mem_of_getElem? h, rfl⟩⟩
  generalize hAe : zA [(h, .inr (3, [.ref w])), (w, .inl (c 2, 4 * n, .inr (.inl f)))] = A at hD ⊢
  have hS : va_S A s.heap s.heap [] := va_S.rf
  have hP : va_P D vwCl [(h, .inr (3, [.ref w])), (w, .inl (c 2, 4 * n, .inr (.inl f)))] s.heap := hP
  have hl := lv_entry ([.ref h, .int (zI ((i : Nat) : Int)), .ref h, .int (zI ((k : Nat) : Int))]) (n := 5) (Nat.le_of_ble_eq_true rfl)
  rw [lg_entry_eq]
  generalize (lg_sl ([.ref h, .int (zI ((i : Nat) : Int)), .ref h, .int (zI ((k : Nat) : Int))]) ++ List.replicate (5 - (lg_sl ([.ref h, .int (zI ((i : Nat) : Int)), .ref h, .int (zI ((k : Nat) : Int))])).length) Slot.unset).toArray = ls at hl ⊢
  have hl : lv_has ls 5 [(0, .ref h), (1, .int (zI ((i : Nat) : Int))), (2, .ref h), (3, .int (zI ((k : Nat) : Int)))] := hl
  generalize hQ : MQ below _ _ _ _ _ _ = Q
  refine lv_aload_n hx hb d_Se_addAll_0 rfl (lv_at hl 0 rfl) ?_
  refine lv_iload_n hx hb d_Se_addAll_1 rfl (lv_at hl 1 rfl) ?_
  have hPc : va_P D vwCl [(h, .inr (3, [.ref w])), (w, .inl (c 2, 4 * n, .inr (.inl f)))] s.heap := hP.sub (ws' := [(h, .inr (3, [.ref w])), (w, .inl (c 2, 4 * n, .inr (.inl f)))]) [0, 1] rfl
  refine vp_callSi (va_runV (rm := rm_hasSet) (As := [.int (zI ((i : Nat) : Int))]) (rest := []) ⟨hx, hb, hml, hown, hts⟩ (c_hasSet l D c h w n f i (by omega) (by omega)) (cwV 1 hts (gWV k_Se_m21 k_i_Se_hasSet k_v_Se_hasSet k_n_Se k_c_Se_hasSet) rfl rfl rfl (by decide +kernel) ⟨Nat.le_of_ble_eq_true rfl, Nat.le_of_ble_eq_true rfl⟩) ⟨zblind, va_recv hK hPc (ci := 3) (q0 := 0) rfl rfl, fun U hU hW => ⟨rfl, by rw [hU]; exact hPc, hKN.moved hW⟩⟩ rfl rfl hl.1 rfl (lv_room (Nat.le_of_ble_eq_true rfl)) d_Se_addAll_2 ⟨Nat.zero_le _, Nat.zero_le _⟩).run (fun r hr_1 => ?_)
  subst hr_1
  refine z_ifeq_B (tgt := 56) hx hb d_Se_addAll_5 (by decide) (fun hc_5 => absurd hc_5 (by simp_all)) (fun hc_5 => ?_)
  refine lv_aload_n hx hb d_Se_addAll_8 rfl (lv_at hl 2 rfl) ?_
  refine lv_iload_n hx hb d_Se_addAll_9 rfl (lv_at hl 3 rfl) ?_
  have hPc : va_P D vwCl [(h, .inr (3, [.ref w])), (w, .inl (c 2, 4 * n, .inr (.inl f)))] s.heap := hP.sub (ws' := [(h, .inr (3, [.ref w])), (w, .inl (c 2, 4 * n, .inr (.inl f)))]) [0, 1] rfl
  refine vp_callSi (va_runV (rm := rm_hasSet) (As := [.int (zI ((k : Nat) : Int))]) (rest := []) ⟨hx, hb, hml, hown, hts⟩ (c_hasSet l D c h w n f k (by omega) (by omega)) (cwV 1 hts (gWV k_Se_m21 k_i_Se_hasSet k_v_Se_hasSet k_n_Se k_c_Se_hasSet) rfl rfl rfl (by decide +kernel) ⟨Nat.le_of_ble_eq_true rfl, Nat.le_of_ble_eq_true rfl⟩) ⟨zblind, va_recv hK hPc (ci := 3) (q0 := 0) rfl rfl, fun U hU hW => ⟨rfl, by rw [hU]; exact hPc, hKN.moved hW⟩⟩ rfl rfl hl.1 rfl (lv_room (Nat.le_of_ble_eq_true rfl)) d_Se_addAll_10 ⟨Nat.zero_le _, Nat.zero_le _⟩).run (fun r hr_2 => ?_)
  subst hr_2
  refine z_ifeq_B (tgt := 56) hx hb d_Se_addAll_13 (by decide) (fun hc_13 => absurd hc_13 (by simp_all)) (fun hc_13 => ?_)
  refine lv_iconst (v := zI 0) hx hb d_Se_addAll_16 (by decide) ?_
  refine lv_istore (lv' := [(4, .int (zI 0)), (0, .ref h), (1, .int (zI ((i : Nat) : Int))), (2, .ref h), (3, .int (zI ((k : Nat) : Int)))]) hx hb d_Se_addAll_17 hl (by decide) rfl (fun ls hl => ?_)
  have lp_19 : ∀ (k_ : Nat) (v : Nat), 4 - v < k_ → (v ≤ 4) → ∀ (H : Heap) (locs : List Loc), va_P D vwCl [(h, .inr (3, [.ref w])), (w, .inl (c 2, 4 * n, .inr (.inl (fun j => if 4 * i ≤ j ∧ j < 4 * i + v then f j ||| f (4 * k + (j - 4 * i)) else f j))))] H → va_D A [(h, .inr (3, [.ref w])), (w, .inl (c 2, 4 * n, .inr (.inl (fun j => if 4 * i ≤ j ∧ j < 4 * i + v then f j ||| f (4 * k + (j - 4 * i)) else f j))))] → va_S A s.heap H locs → ∀ ls : Array Slot, lv_has ls 5 [(4, .int (zI ((v : Nat) : Int))), (0, .ref h), (1, .int (zI ((i : Nat) : Int))), (2, .ref h), (3, .int (zI ((k : Nat) : Int)))] → W p l e (headSpec w_Se_addAll rm_addSelf).room s m ([.ref h, .int (zI ((i : Nat) : Int)), .ref h, .int (zI ((k : Nat) : Int))] : List Value).toArray below meth c0 H locs 0 0 Q (F0 m 19 ls []) := by
    intro k_
    induction k_ with
    | zero => intro v hk_; exact absurd hk_ (Nat.not_lt_zero _)
    | succ k_ ih_19 =>
      intro v hk_ hv H locs hP hD hS ls hl
      refine lv_iload hx hb d_Se_addAll_19 (lv_at hl 0 rfl) ?_
      refine lv_iconst (v := zI 4) hx hb d_Se_addAll_21 (by decide) ?_
      refine z_icmp_ge (tgt := 56) hx hb (by omega) d_Se_addAll_22 (by decide) (fun hc_22 => ?_) (fun hc_22 => ?_)
      · obtain rfl : v = 4 := by omega
        subst hQ
        exact W.vret hx hb hr (fun t9 ht hW => ⟨⟨(), rfl, trivial, by show va_P _ _ _ t9.heap; rw [ht]; exact hP⟩, hS.F ht⟩) hS.2.2 d_Se_addAll_56
      · refine lv_aload_n hx hb d_Se_addAll_25 rfl (lv_at hl 1 rfl) ?_
        refine va_get (D := D) (ci := 3) (v := .ref w) (C := R_Se) (T := T_Se) (N := 1) hx hb hts (fun w h => List.mem_cons_of_mem _ (inA_Se w h)) hown hK hP 0 rfl rfl 0 (by decide) (hw k_Se_f17) (fun _ h9 => h9) rfl d_Se_addAll_26 ?_
        refine lv_iload_n hx hb d_Se_addAll_29 rfl (lv_at hl 2 rfl) ?_
        refine lv_iconst (v := zI 4) hx hb d_Se_addAll_30 (by decide) ?_
        refine z_imul hx hb d_Se_addAll_31 ?_
        refine lv_iload hx hb d_Se_addAll_32 (lv_at hl 0 rfl) ?_
        refine z_iadd hx hb d_Se_addAll_34 ?_
        refine lv_dup2_11 hx hb d_Se_addAll_35 rfl rfl ?_
        refine z_lald hx hb hK hP 1 2 rfl rfl (4 * i + v) (by omega) (by omega) (by omega) d_Se_addAll_36 ?_
        refine lv_aload_n hx hb d_Se_addAll_37 rfl (lv_at hl 3 rfl) ?_
        refine va_get (D := D) (ci := 3) (v := .ref w) (C := R_Se) (T := T_Se) (N := 1) hx hb hts (fun w h => List.mem_cons_of_mem _ (inA_Se w h)) hown hK hP 0 rfl rfl 0 (by decide) (hw k_Se_f17) (fun _ h9 => h9) rfl d_Se_addAll_38 ?_
        refine lv_iload_n hx hb d_Se_addAll_41 rfl (lv_at hl 4 rfl) ?_
        refine lv_iconst (v := zI 4) hx hb d_Se_addAll_42 (by decide) ?_
        refine z_imul hx hb d_Se_addAll_43 ?_
        refine lv_iload hx hb d_Se_addAll_44 (lv_at hl 0 rfl) ?_
        refine z_iadd hx hb d_Se_addAll_46 ?_
        refine z_lald hx hb hK hP 1 2 rfl rfl (4 * k + v) (by omega) (by omega) (by omega) d_Se_addAll_47 ?_
        refine lv_lor hx hb d_Se_addAll_48 ?_
        refine z_last hx hb hK hP hD hS 1 2 rfl rfl (4 * i + v) (by omega) (by omega) (by omega) d_Se_addAll_49 (fun H locs hP hD hS => ?_)
        have hP : va_P D vwCl [(h, .inr (3, [.ref w])), (w, .inl (c 2, 4 * n, .inr (.inl (vp_updL (fun j => if 4 * i ≤ j ∧ j < 4 * i + v then f j ||| f (4 * k + (j - 4 * i)) else f j) (4 * i + v) (((fun j => if 4 * i ≤ j ∧ j < 4 * i + v then f j ||| f (4 * k + (j - 4 * i)) else f j) (4 * i + v)) ||| ((fun j => if 4 * i ≤ j ∧ j < 4 * i + v then f j ||| f (4 * k + (j - 4 * i)) else f j) (4 * k + v)))))))] H := hP
        have hD : va_D A [(h, .inr (3, [.ref w])), (w, .inl (c 2, 4 * n, .inr (.inl (vp_updL (fun j => if 4 * i ≤ j ∧ j < 4 * i + v then f j ||| f (4 * k + (j - 4 * i)) else f j) (4 * i + v) (((fun j => if 4 * i ≤ j ∧ j < 4 * i + v then f j ||| f (4 * k + (j - 4 * i)) else f j) (4 * i + v)) ||| ((fun j => if 4 * i ≤ j ∧ j < 4 * i + v then f j ||| f (4 * k + (j - 4 * i)) else f j) (4 * k + v)))))))] := hD
        refine lv_iinc (v := zI ((v + 1 : Nat) : Int)) (lv' := [(4, .int (zI ((v + 1 : Nat) : Int))), (0, .ref h), (1, .int (zI ((i : Nat) : Int))), (2, .ref h), (3, .int (zI ((k : Nat) : Int)))]) hx hb d_Se_addAll_50 hl (k := 0) rfl (z_incN _ 1) (by decide) rfl (fun ls hl => ?_)
        refine lv_goto (tgt := 19) hx hb d_Se_addAll_53 (by decide) ?_
        exact ih_19 (v + 1) (by omega) (by omega) _ _ (by rw [← z_or_step]; dsimp only at hP; rw [if_neg (show ¬ (4 * i ≤ 4 * i + v ∧ 4 * i + v < 4 * i + v) by omega), if_neg (show ¬ (4 * i ≤ 4 * k + v ∧ 4 * k + v < 4 * i + v) by omega)] at hP; exact hP) (z_D_congr (by rfl) hD) hS _ (lv_sub hl [0, 1, 2, 3, 4] rfl)
  exact lp_19 _ 0 (Nat.lt_succ_self _) (by omega) _ _ (by rw [show (fun j => if 4 * i ≤ j ∧ j < 4 * i + 0 then f j ||| f (4 * k + (j - 4 * i)) else f j) = f from funext fun j => if_neg (by omega)]; exact hP) (z_D_congr (by rfl) hD) hS _ (lv_sub hl [0, 1, 2, 3, 4] rfl)
end
section
def lfw (fw iw lw : Nat → Int64) (i k : Nat) : Nat → (Nat → Int64)
  | 0 => fw
  | n + 1 => if zbt lw i n = true then zor (lfw fw iw lw i k n) n iw k else lfw fw iw lw i k n
theorem lfw_T {fw iw lw : Nat → Int64} {i k n : Nat} (h : zbt lw i n = true) : lfw fw iw lw i k (n + 1) = zor (lfw fw iw lw i k n) n iw k := by rw [lfw, if_pos h]
theorem lfw_F {fw iw lw : Nat → Int64} {i k n : Nat} (h : zbt lw i n = false) : lfw fw iw lw i k (n + 1) = lfw fw iw lw i k n := by rw [lfw, if_neg (by rw [h]; decide)]
def jrI (iw : Nat → Int64) (mb : Nat → Bool) (q : Nat) : Nat → Int64 := if mb q = true then zor iw q iw (q + 1) else iw
theorem jrI_T {iw : Nat → Int64} {mb : Nat → Bool} {q : Nat} (h : mb q = true) : jrI iw mb q = zor iw q iw (q + 1) := if_pos h
theorem jrI_F {iw : Nat → Int64} {mb : Nat → Bool} {q : Nat} (h : mb q = false) : jrI iw mb q = iw := if_neg (by rw [h]; decide)
def jrL0 (lw : Nat → Int64) (mb : Nat → Bool) (q : Nat) : Nat → Int64 := if mb (q + 1) = true then lw else zclr lw q
theorem jrL0_T {lw : Nat → Int64} {mb : Nat → Bool} {q : Nat} (h : mb (q + 1) = true) : jrL0 lw mb q = lw := if_pos h
theorem jrL0_F {lw : Nat → Int64} {mb : Nat → Bool} {q : Nat} (h : mb (q + 1) = false) : jrL0 lw mb q = zclr lw q := if_neg (by rw [h]; decide)

def rm_hasPart : Room := { frames := 0, cells := 0, slots := 0, locals := 0 }
set_option maxHeartbeats 4000000 in
set_option maxRecDepth 100000 in
/-- Draft.hasPart -/
theorem c_hasPart (l : Launch) (D : va_G) (c : Nat → ClassId) (d : Nat) (dn : Nat) (df : Nat) (dfw : Nat) (di : Nat) (diw : Nat) (dl : Nat) (dlw : Nat) (dm : Nat) (nm : Nat → Nat) (fw : Nat → Int64) (iw : Nat → Int64) (lw : Nat → Int64) (mb : Nat → Bool) (nc : Nat) (pp : Nat) (z : Int) (hp : pp ≤ 40) (hz : -10 ≤ z ∧ z < 100) : Met l y_Dr_hasPart w_Dr_hasPart rm_hasPart (va_Pc [.ref d, .int (zI z)] (fun U => va_P D vwCl [(d, .inr (0, [.ref dn, .ref df, .ref di, .ref dl, .ref dm, .int (zI ((nc : Nat) : Int)), .int (zI ((pp : Nat) : Int))])), (dm, .inl (c 1, 40, .inl (fun j => zB (mb j))))] U.heap ∧ zK D c U)) (vp_Si (fun r => r = (zB (decide (0 ≤ z ∧ z < ((pp : Nat) : Int)))))) 0 0 (fun _ => False) := by
  refine Met.ofW (cc := b_Dr_hasPart) (maxL := 2) (ret := (some .boolean)) (by decide) rfl ?_
  intro p e s m args below meth c0 s₁ B hml hv
  obtain ⟨rfl, hP, hKN⟩ := hv
  have hK := hKN.1
  have hN := hKN.2
  have hx := B.exec
  have hb := B.bytes
  have hr := B.returns
  have hts := atoms_spec (ws := w_Dr_hasPart) B.pre
  have hw : ∀ {w : Cond}, w ∈ ALLW → w.before _ s = true := fun h => hts _ (List.mem_cons_of_mem _ h)
  have hown : s.vm.findClass R_Dr = some m.cls := findClass_of_methodNamed B.named
  have hlocks := B.notSynchronized
  have hl := lv_entry ([.ref d, .int (zI z)]) (n := 2) (Nat.le_of_ble_eq_true rfl)
  rw [lg_entry_eq]
  generalize (lg_sl ([.ref d, .int (zI z)]) ++ List.replicate (2 - (lg_sl ([.ref d, .int (zI z)])).length) Slot.unset).toArray = ls at hl ⊢
  have hl : lv_has ls 2 [(0, .ref d), (1, .int (zI z))] := hl
  generalize hQ : MQ below _ _ _ _ _ _ = Q
  refine lv_iload_n hx hb d_Dr_hasPart_0 rfl (lv_at hl 1 rfl) ?_
  refine z_if_lt (tgt := 25) hx hb (by omega) d_Dr_hasPart_1 (by decide) (fun hc_1 => ?_) (fun hc_1 => ?_)
  · refine lv_iconst (v := zI 0) hx hb d_Dr_hasPart_25 (by decide) ?_
    subst hQ
    exact W.zret (ty := .boolean) (v := (zI 0)) hx hb hr (by decide) (fun t9 ht hW => ⟨_, rfl, (by rw [decide_eq_false (by omega)]; decide), ht⟩) (fun q hq => absurd hq List.not_mem_nil) d_Dr_hasPart_26
  · refine lv_iload_n hx hb d_Dr_hasPart_4 rfl (lv_at hl 1 rfl) ?_
    refine lv_aload_n hx hb d_Dr_hasPart_5 rfl (lv_at hl 0 rfl) ?_
    refine va_get (D := D) (ci := 0) (v := .int (zI ((pp : Nat) : Int))) (C := R_Dr) (T := T_Dr) (N := 7) hx hb hts (fun w h => List.mem_cons_of_mem _ (inA_Dr w h)) hown hK hP 0 rfl rfl 6 (by decide) (hw k_Dr_f34) (fun _ h9 => h9) rfl d_Dr_hasPart_6 ?_
    refine z_icmp_ge (tgt := 25) hx hb (by omega) d_Dr_hasPart_9 (by decide) (fun hc_9 => ?_) (fun hc_9 => ?_)
    · refine lv_iconst (v := zI 0) hx hb d_Dr_hasPart_25 (by decide) ?_
      subst hQ
      exact W.zret (ty := .boolean) (v := (zI 0)) hx hb hr (by decide) (fun t9 ht hW => ⟨_, rfl, (by rw [decide_eq_false (by omega)]; decide), ht⟩) (fun q hq => absurd hq List.not_mem_nil) d_Dr_hasPart_26
    · refine lv_iload_n hx hb d_Dr_hasPart_12 rfl (lv_at hl 1 rfl) ?_
      refine lv_aload_n hx hb d_Dr_hasPart_13 rfl (lv_at hl 0 rfl) ?_
      refine va_get (D := D) (ci := 0) (v := .ref dm) (C := R_Dr) (T := T_Dr) (N := 7) hx hb hts (fun w h => List.mem_cons_of_mem _ (inA_Dr w h)) hown hK hP 0 rfl rfl 4 (by decide) (hw k_Dr_f30) (fun _ h9 => h9) rfl d_Dr_hasPart_14 ?_
      refine z_alen hx hb hK hP 1 1 rfl rfl d_Dr_hasPart_17 ?_
      refine z_top (v2 := .int (zI (40 : Int))) rfl ?_
      refine z_icmp_ge (tgt := 25) hx hb (by omega) d_Dr_hasPart_18 (by decide) (fun hc_18 => absurd hc_18 (by omega)) (fun hc_18 => ?_)
      refine lv_iconst (v := zI 1) hx hb d_Dr_hasPart_21 (by decide) ?_
      refine lv_goto (tgt := 26) hx hb d_Dr_hasPart_22 (by decide) ?_
      subst hQ
      exact W.zret (ty := .boolean) (v := (zI 1)) hx hb hr (by decide) (fun t9 ht hW => ⟨_, rfl, (by rw [decide_eq_true (by omega)]; decide), ht⟩) (fun q hq => absurd hq List.not_mem_nil) d_Dr_hasPart_26

def rm_letFollow : Room := { frames := 3, cells := 0, slots := 0, locals := 65 }
set_option maxHeartbeats 4000000 in
set_option maxRecDepth 100000 in
/-- Draft.letFollow -/
theorem c_letFollow (l : Launch) (D : va_G) (c : Nat → ClassId) (d : Nat) (dn : Nat) (df : Nat) (dfw : Nat) (di : Nat) (diw : Nat) (dl : Nat) (dlw : Nat) (dm : Nat) (nm : Nat → Nat) (fw : Nat → Int64) (iw : Nat → Int64) (lw : Nat → Int64) (mb : Nat → Bool) (nc : Nat) (pp : Nat) (i : Nat) (k : Nat) (hc : nc ≤ 255) (hi : i < 40) (hk : k < 40) : Met l y_Dr_letFollow w_Dr_letFollow rm_letFollow (va_Pc [.ref d, .int (zI ((i : Nat) : Int)), .int (zI ((k : Nat) : Int))] (fun U => (va_P D vwCl [(d, .inr (0, [.ref dn, .ref df, .ref di, .ref dl, .ref dm, .int (zI ((nc : Nat) : Int)), .int (zI ((pp : Nat) : Int))])), (df, .inr (3, [.ref dfw])), (dfw, .inl (c 2, 4 * 255, .inr (.inl fw))), (di, .inr (3, [.ref diw])), (diw, .inl (c 2, 4 * 40, .inr (.inl iw))), (dl, .inr (3, [.ref dlw])), (dlw, .inl (c 2, 4 * 40, .inr (.inl lw)))] U.heap ∧ va_D (fun _ => True) [(d, .inr (0, [.ref dn, .ref df, .ref di, .ref dl, .ref dm, .int (zI ((nc : Nat) : Int)), .int (zI ((pp : Nat) : Int))])), (df, .inr (3, [.ref dfw])), (dfw, .inl (c 2, 4 * 255, .inr (.inl fw))), (di, .inr (3, [.ref diw])), (diw, .inl (c 2, 4 * 40, .inr (.inl iw))), (dl, .inr (3, [.ref dlw])), (dlw, .inl (c 2, 4 * 40, .inr (.inl lw)))]) ∧ zK D c U)) (va_Qv (fun (u : Unit) => True) (fun (u : Unit) t9 => va_P D vwCl [(d, .inr (0, [.ref dn, .ref df, .ref di, .ref dl, .ref dm, .int (zI ((nc : Nat) : Int)), .int (zI ((pp : Nat) : Int))])), (df, .inr (3, [.ref dfw])), (dfw, .inl (c 2, 4 * 255, .inr (.inl (lfw fw iw lw i k nc)))), (di, .inr (3, [.ref diw])), (diw, .inl (c 2, 4 * 40, .inr (.inl iw))), (dl, .inr (3, [.ref dlw])), (dlw, .inl (c 2, 4 * 40, .inr (.inl lw)))] t9.heap) (zA [(d, .inr (0, [.ref dn, .ref df, .ref di, .ref dl, .ref dm, .int (zI ((nc : Nat) : Int)), .int (zI ((pp : Nat) : Int))])), (df, .inr (3, [.ref dfw])), (dfw, .inl (c 2, 4 * 255, .inr (.inl fw))), (di, .inr (3, [.ref diw])), (diw, .inl (c 2, 4 * 40, .inr (.inl iw))), (dl, .inr (3, [.ref dlw])), (dlw, .inl (c 2, 4 * 40, .inr (.inl lw)))])) 0 0 (zA [(d, .inr (0, [.ref dn, .ref df, .ref di, .ref dl, .ref dm, .int (zI ((nc : Nat) : Int)), .int (zI ((pp : Nat) : Int))])), (df, .inr (3, [.ref dfw])), (dfw, .inl (c 2, 4 * 255, .inr (.inl fw))), (di, .inr (3, [.ref diw])), (diw, .inl (c 2, 4 * 40, .inr (.inl iw))), (dl, .inr (3, [.ref dlw])), (dlw, .inl (c 2, 4 * 40, .inr (.inl lw)))]) := by
  refine Met.ofW (cc := b_Dr_letFollow) (maxL := 4) (ret := none) (by decide) rfl ?_
  intro p e s m args below meth c0 s₁ B hml hv
  obtain ⟨rfl, ⟨hP, hD0⟩, hKN⟩ := hv
  have hK := hKN.1
  have hN := hKN.2
  have hx := B.exec
  have hb := B.bytes
  have hr := B.returns
  have hts := atoms_spec (ws := w_Dr_letFollow) B.pre
  have hw : ∀ {w : Cond}, w ∈ ALLW → w.before _ s = true := fun h => hts _ (List.mem_cons_of_mem _ h)
  have hown : s.vm.findClass R_Dr = some m.cls := findClass_of_methodNamed B.named
  have hlocks := B.notSynchronized
  have hD : va_D (zA [(d, .inr (0, [.ref dn, .ref df, .ref di, .ref dl, .ref dm, .int (zI ((nc : Nat) : Int)), .int (zI ((pp : Nat) : Int))])), (df, .inr (3, [.ref dfw])), (dfw, .inl (c 2, 4 * 255, .inr (.inl fw))), (di, .inr (3, [.ref diw])), (diw, .inl (c 2, 4 * 40, .inr (.inl iw))), (dl, .inr (3, [.ref dlw])), (dlw, .inl (c 2, 4 * 40, .inr (.inl lw)))]) [(d, .inr (0, [.ref dn, .ref df, .ref di, .ref dl, .ref dm, .int (zI ((nc : Nat) : Int)), .int (zI ((pp : Nat) : Int))])), (df, .inr (3, [.ref dfw])), (dfw, .inl (c 2, 4 * 255, .inr (.inl fw))), (di, .inr (3, [.ref diw])), (diw, .inl (c 2, 4 * 40, .inr (.inl iw))), (dl, .inr (3, [.ref dlw])), (dlw, .inl (c 2, 4 * 40, .inr (.inl lw)))] := ⟨hD0.1, fun k q h => List.mem_map.mpr ⟨q, List.mem_of_getElem? h, rfl⟩⟩
  generalize hAe : zA [(d, .inr (0, [.ref dn, .ref df, .ref di, .ref dl, .ref dm, .int (zI ((nc : Nat) : Int)), .int (zI ((pp : Nat) : Int))])), (df, .inr (3, [.ref dfw])), (dfw, .inl (c 2, 4 * 255, .inr (.inl fw))), (di, .inr (3, [.ref diw])), (diw, .inl (c 2, 4 * 40, .inr (.inl iw))), (dl, .inr (3, [.ref dlw])), (dlw, .inl (c 2, 4 * 40, .inr (.inl lw)))] = A at hD ⊢
  have hS : va_S A s.heap s.heap [] := va_S.rf
  have hP : va_P D vwCl [(d, .inr (0, [.ref dn, .ref df, .ref di, .ref dl, .ref dm, .int (zI ((nc : Nat) : Int)), .int (zI ((pp : Nat) : Int))])), (df, .inr (3, [.ref dfw])), (dfw, .inl (c 2, 4 * 255, .inr (.inl fw))), (di, .inr (3, [.ref diw])), (diw, .inl (c 2, 4 * 40, .inr (.inl iw))), (dl, .inr (3, [.ref dlw])), (dlw, .inl (c 2, 4 * 40, .inr (.inl lw)))] s.heap := hP
  have hl := lv_entry ([.ref d, .int (zI ((i : Nat) : Int)), .int (zI ((k : Nat) : Int))]) (n := 4) (Nat.le_of_ble_eq_true rfl)
  rw [lg_entry_eq]
  generalize (lg_sl ([.ref d, .int (zI ((i : Nat) : Int)), .int (zI ((k : Nat) : Int))]) ++ List.replicate (4 - (lg_sl ([.ref d, .int (zI ((i : Nat) : Int)), .int (zI ((k : Nat) : Int))])).length) Slot.unset).toArray = ls at hl ⊢
  have hl : lv_has ls 4 [(0, .ref d), (1, .int (zI ((i : Nat) : Int))), (2, .int (zI ((k : Nat) : Int)))] := hl
  generalize hQ : MQ below _ _ _ _ _ _ = Q
  refine lv_iconst (v := zI 0) hx hb d_Dr_letFollow_0 (by decide) ?_
  refine lv_istore_n (lv' := [(3, .int (zI 0)), (0, .ref d), (1, .int (zI ((i : Nat) : Int))), (2, .int (zI ((k : Nat) : Int)))]) hx hb d_Dr_letFollow_1 rfl hl (by decide) rfl (fun ls hl => ?_)
  have lp_2 : ∀ (k_ : Nat) (v : Nat), nc - v < k_ → (v ≤ nc) → ∀ (H : Heap) (locs : List Loc), va_P D vwCl [(d, .inr (0, [.ref dn, .ref df, .ref di, .ref dl, .ref dm, .int (zI ((nc : Nat) : Int)), .int (zI ((pp : Nat) : Int))])), (df, .inr (3, [.ref dfw])), (dfw, .inl (c 2, 4 * 255, .inr (.inl (lfw fw iw lw i k v)))), (di, .inr (3, [.ref diw])), (diw, .inl (c 2, 4 * 40, .inr (.inl iw))), (dl, .inr (3, [.ref dlw])), (dlw, .inl (c 2, 4 * 40, .inr (.inl lw)))] H → va_D A [(d, .inr (0, [.ref dn, .ref df, .ref di, .ref dl, .ref dm, .int (zI ((nc : Nat) : Int)), .int (zI ((pp : Nat) : Int))])), (df, .inr (3, [.ref dfw])), (dfw, .inl (c 2, 4 * 255, .inr (.inl (lfw fw iw lw i k v)))), (di, .inr (3, [.ref diw])), (diw, .inl (c 2, 4 * 40, .inr (.inl iw))), (dl, .inr (3, [.ref dlw])), (dlw, .inl (c 2, 4 * 40, .inr (.inl lw)))] → va_S A s.heap H locs → ∀ ls : Array Slot, lv_has ls 4 [(3, .int (zI ((v : Nat) : Int))), (0, .ref d), (1, .int (zI ((i : Nat) : Int))), (2, .int (zI ((k : Nat) : Int)))] → W p l e (headSpec w_Dr_letFollow rm_letFollow).room s m ([.ref d, .int (zI ((i : Nat) : Int)), .int (zI ((k : Nat) : Int))] : List Value).toArray below meth c0 H locs 0 0 Q (F0 m 2 ls []) := by
    intro k_
    induction k_ with
    | zero => intro v hk_; exact absurd hk_ (Nat.not_lt_zero _)
    | succ k_ ih_2 =>
      intro v hk_ hv H locs hP hD hS ls hl
      refine lv_iload_n hx hb d_Dr_letFollow_2 rfl (lv_at hl 0 rfl) ?_
      refine lv_aload_n hx hb d_Dr_letFollow_3 rfl (lv_at hl 1 rfl) ?_
      refine va_get (D := D) (ci := 0) (v := .int (zI ((nc : Nat) : Int))) (C := R_Dr) (T := T_Dr) (N := 7) hx hb hts (fun w h => List.mem_cons_of_mem _ (inA_Dr w h)) hown hK hP 0 rfl rfl 5 (by decide) (hw k_Dr_f38) (fun _ h9 => h9) rfl d_Dr_letFollow_4 ?_
      refine z_icmp_ge (tgt := 41) hx hb (by omega) d_Dr_letFollow_7 (by decide) (fun hc_7 => ?_) (fun hc_7 => ?_)
      · have e_ : v = nc := by omega
        rw [e_] at hP
        subst hQ
        exact W.vret hx hb hr (fun t9 ht hW => ⟨⟨(), rfl, trivial, by show va_P _ _ _ t9.heap; rw [ht]; exact hP⟩, hS.F ht⟩) hS.2.2 d_Dr_letFollow_41
      · refine lv_aload_n hx hb d_Dr_letFollow_10 rfl (lv_at hl 1 rfl) ?_
        refine va_get (D := D) (ci := 0) (v := .ref dl) (C := R_Dr) (T := T_Dr) (N := 7) hx hb hts (fun w h => List.mem_cons_of_mem _ (inA_Dr w h)) hown hK hP 0 rfl rfl 3 (by decide) (hw k_Dr_f27) (fun _ h9 => h9) rfl d_Dr_letFollow_11 ?_
        refine lv_iload_n hx hb d_Dr_letFollow_14 rfl (lv_at hl 2 rfl) ?_
        refine lv_iload_n hx hb d_Dr_letFollow_15 rfl (lv_at hl 0 rfl) ?_
        have hPc : va_P D vwCl [(dl, .inr (3, [.ref dlw])), (dlw, .inl (c 2, 4 * 40, .inr (.inl lw)))] H := hP.sub (ws' := [(dl, .inr (3, [.ref dlw])), (dlw, .inl (c 2, 4 * 40, .inr (.inl lw)))]) [5, 6] rfl
        refine vp_callSi (va_runV (rm := rm_holds) (As := [.int (zI ((i : Nat) : Int)), .int (zI ((v : Nat) : Int))]) (rest := []) ⟨hx, hb, hml, hown, hts⟩ (c_holds l D c dl dlw 40 lw i v (by omega) (by omega) (by omega)) (cwV 2 hts (gWV k_Dr_m59 k_i_Se_holds k_v_Se_holds k_n_Se k_c_Se_holds) rfl rfl rfl (by decide +kernel) ⟨Nat.le_of_ble_eq_true rfl, Nat.le_of_ble_eq_true rfl⟩) ⟨zblind, va_recv hK hPc (ci := 3) (q0 := 0) rfl rfl, fun U hU hW => ⟨rfl, by rw [hU]; exact hPc, hKN.moved hW⟩⟩ rfl rfl hl.1 rfl (lv_room (Nat.le_of_ble_eq_true rfl)) d_Dr_letFollow_16 ⟨Nat.zero_le _, Nat.zero_le _⟩).run (fun r hr_1 => ?_)
        subst hr_1
        refine z_ifeq_B (tgt := 35) hx hb d_Dr_letFollow_19 (by decide) (fun hc_19 => ?_) (fun hc_19 => ?_)
        · refine lv_iinc (v := zI ((v + 1 : Nat) : Int)) (lv' := [(3, .int (zI ((v + 1 : Nat) : Int))), (0, .ref d), (1, .int (zI ((i : Nat) : Int))), (2, .int (zI ((k : Nat) : Int)))]) hx hb d_Dr_letFollow_35 hl (k := 0) rfl (z_incN _ 1) (by decide) rfl (fun ls hl => ?_)
          refine lv_goto (tgt := 2) hx hb d_Dr_letFollow_38 (by decide) ?_
          exact ih_2 (v + 1) (by omega) (by omega) _ _ (by rw [lfw_F hc_19]; exact hP) (z_D_congr (by rfl) hD) hS _ (lv_sub hl [0, 1, 2, 3] rfl)
        · refine lv_aload_n hx hb d_Dr_letFollow_22 rfl (lv_at hl 1 rfl) ?_
          refine va_get (D := D) (ci := 0) (v := .ref df) (C := R_Dr) (T := T_Dr) (N := 7) hx hb hts (fun w h => List.mem_cons_of_mem _ (inA_Dr w h)) hown hK hP 0 rfl rfl 1 (by decide) (hw k_Dr_f20) (fun _ h9 => h9) rfl d_Dr_letFollow_23 ?_
          refine lv_iload_n hx hb d_Dr_letFollow_26 rfl (lv_at hl 0 rfl) ?_
          refine lv_aload_n hx hb d_Dr_letFollow_27 rfl (lv_at hl 1 rfl) ?_
          refine va_get (D := D) (ci := 0) (v := .ref di) (C := R_Dr) (T := T_Dr) (N := 7) hx hb hts (fun w h => List.mem_cons_of_mem _ (inA_Dr w h)) hown hK hP 0 rfl rfl 2 (by decide) (hw k_Dr_f24) (fun _ h9 => h9) rfl d_Dr_letFollow_28 ?_
          refine lv_iload_n hx hb d_Dr_letFollow_31 rfl (lv_at hl 3 rfl) ?_
          have hPc : va_P D vwCl [(df, .inr (3, [.ref dfw])), (dfw, .inl (c 2, 4 * 255, .inr (.inl (lfw fw iw lw i k v)))), (di, .inr (3, [.ref diw])), (diw, .inl (c 2, 4 * 40, .inr (.inl iw)))] H := hP.sub (ws' := [(df, .inr (3, [.ref dfw])), (dfw, .inl (c 2, 4 * 255, .inr (.inl (lfw fw iw lw i k v)))), (di, .inr (3, [.ref diw])), (diw, .inl (c 2, 4 * 40, .inr (.inl iw)))]) [1, 2, 3, 4] rfl
          have hDc : va_D A [(df, .inr (3, [.ref dfw])), (dfw, .inl (c 2, 4 * 255, .inr (.inl (lfw fw iw lw i k v)))), (di, .inr (3, [.ref diw])), (diw, .inl (c 2, 4 * 40, .inr (.inl iw)))] := hD.sub (ws' := [(df, .inr (3, [.ref dfw])), (dfw, .inl (c 2, 4 * 255, .inr (.inl (lfw fw iw lw i k v)))), (di, .inr (3, [.ref diw])), (diw, .inl (c 2, 4 * 40, .inr (.inl iw)))]) [1, 2, 3, 4] (by decide) rfl
          have hDt : va_D (fun _ => True) [(df, .inr (3, [.ref dfw])), (dfw, .inl (c 2, 4 * 255, .inr (.inl (lfw fw iw lw i k v)))), (di, .inr (3, [.ref diw])), (diw, .inl (c 2, 4 * 40, .inr (.inl iw)))] := hDc.weaken (fun _ _ _ _ => trivial)
          refine z_callv (S := Unit) (w1 := fun u => [(df, .inr (3, [.ref dfw])), (dfw, .inl (c 2, 4 * 255, .inr (.inl (zor (lfw fw iw lw i k v) v iw k)))), (di, .inr (3, [.ref diw])), (diw, .inl (c 2, 4 * 40, .inr (.inl iw)))]) (post := fun u => True) (wc := [(df, .inr (3, [.ref dfw])), (dfw, .inl (c 2, 4 * 255, .inr (.inl (lfw fw iw lw i k v)))), (di, .inr (3, [.ref diw])), (diw, .inl (c 2, 4 * 40, .inr (.inl iw)))]) [1, 2, 3, 4] rfl (fun _ => rfl) hP hD hS (va_runV (rm := rm_addAll) (As := [.int (zI ((v : Nat) : Int)), .ref di, .int (zI ((k : Nat) : Int))]) (rest := []) ⟨hx, hb, hml, hown, hts⟩ (c_addAll l D c df dfw 255 (lfw fw iw lw i k v) v di diw 40 iw k (by omega) (by omega) (by omega) (by omega)) (cwV 3 hts (gWV k_Dr_m55 k_i_Se_addAll k_v_Se_addAll k_n_Se k_c_Se_addAll) rfl rfl rfl (by decide +kernel) ⟨Nat.le_of_ble_eq_true rfl, Nat.le_of_ble_eq_true rfl⟩) ⟨zblindW, va_recv hK hPc (ci := 3) (q0 := 0) rfl rfl, fun U hU hW => ⟨rfl, ⟨by rw [hU]; exact hPc, hDt⟩, hKN.moved hW⟩⟩ rfl rfl hl.1 rfl (lv_room (Nat.le_of_ble_eq_true rfl)) d_Dr_letFollow_32 ⟨Nat.zero_le _, Nat.zero_le _⟩) (fun u H locs hp_2 hP hD hS => ?_)
          have hP : va_P D vwCl [(d, .inr (0, [.ref dn, .ref df, .ref di, .ref dl, .ref dm, .int (zI ((nc : Nat) : Int)), .int (zI ((pp : Nat) : Int))])), (df, .inr (3, [.ref dfw])), (dfw, .inl (c 2, 4 * 255, .inr (.inl (zor (lfw fw iw lw i k v) v iw k)))), (di, .inr (3, [.ref diw])), (diw, .inl (c 2, 4 * 40, .inr (.inl iw))), (dl, .inr (3, [.ref dlw])), (dlw, .inl (c 2, 4 * 40, .inr (.inl lw)))] H := hP
          have hD : va_D A [(d, .inr (0, [.ref dn, .ref df, .ref di, .ref dl, .ref dm, .int (zI ((nc : Nat) : Int)), .int (zI ((pp : Nat) : Int))])), (df, .inr (3, [.ref dfw])), (dfw, .inl (c 2, 4 * 255, .inr (.inl (zor (lfw fw iw lw i k v) v iw k)))), (di, .inr (3, [.ref diw])), (diw, .inl (c 2, 4 * 40, .inr (.inl iw))), (dl, .inr (3, [.ref dlw])), (dlw, .inl (c 2, 4 * 40, .inr (.inl lw)))] := hD
          refine lv_iinc (v := zI ((v + 1 : Nat) : Int)) (lv' := [(3, .int (zI ((v + 1 : Nat) : Int))), (0, .ref d), (1, .int (zI ((i : Nat) : Int))), (2, .int (zI ((k : Nat) : Int)))]) hx hb d_Dr_letFollow_35 hl (k := 0) rfl (z_incN _ 1) (by decide) rfl (fun ls hl => ?_)
          refine lv_goto (tgt := 2) hx hb d_Dr_letFollow_38 (by decide) ?_
          exact ih_2 (v + 1) (by omega) (by omega) _ _ (by rw [lfw_T hc_19]; exact hP) (z_D_congr (by rfl) hD) hS _ (lv_sub hl [0, 1, 2, 3] rfl)
  exact lp_2 _ 0 (Nat.lt_succ_self _) (by omega) _ _ hP hD hS _ (lv_sub hl [0, 1, 2, 3] rfl)

def rm_dropAll : Room := { frames := 0, cells := 0, slots := 0, locals := 0 }
set_option maxHeartbeats 4000000 in
set_option maxRecDepth 100000 in
/-- Draft.dropAll -/
theorem c_dropAll (l : Launch) (D : va_G) (c : Nat → ClassId) (d : Nat) (dn : Nat) (df : Nat) (dfw : Nat) (di : Nat) (diw : Nat) (dl : Nat) (dlw : Nat) (dm : Nat) (nm : Nat → Nat) (fw : Nat → Int64) (iw : Nat → Int64) (lw : Nat → Int64) (mb : Nat → Bool) (nc : Nat) (pp : Nat)  : Met l y_Dr_dropAll w_Dr_dropAll rm_dropAll (va_Pc [.ref d] (fun U => (va_P D vwCl [(d, .inr (0, [.ref dn, .ref df, .ref di, .ref dl, .ref dm, .int (zI ((nc : Nat) : Int)), .int (zI ((pp : Nat) : Int))]))] U.heap ∧ va_D (fun _ => True) [(d, .inr (0, [.ref dn, .ref df, .ref di, .ref dl, .ref dm, .int (zI ((nc : Nat) : Int)), .int (zI ((pp : Nat) : Int))]))]) ∧ zK D c U)) (va_Qv (fun (u : Unit) => True) (fun (u : Unit) t9 => va_P D vwCl [(d, .inr (0, [.ref dn, .ref df, .ref di, .ref dl, .ref dm, .int (zI 0), .int (zI 0)]))] t9.heap) (zA [(d, .inr (0, [.ref dn, .ref df, .ref di, .ref dl, .ref dm, .int (zI ((nc : Nat) : Int)), .int (zI ((pp : Nat) : Int))]))])) 0 0 (zA [(d, .inr (0, [.ref dn, .ref df, .ref di, .ref dl, .ref dm, .int (zI ((nc : Nat) : Int)), .int (zI ((pp : Nat) : Int))]))]) := by
  refine Met.ofW (cc := b_Dr_dropAll) (maxL := 1) (ret := none) (by decide) rfl ?_
  intro p e s m args below meth c0 s₁ B hml hv
  obtain ⟨rfl, ⟨hP, hD0⟩, hKN⟩ := hv
  have hK := hKN.1
  have hN := hKN.2
  have hx := B.exec
  have hb := B.bytes
  have hr := B.returns
  have hts := atoms_spec (ws := w_Dr_dropAll) B.pre
  have hw : ∀ {w : Cond}, w ∈ ALLW → w.before _ s = true := fun h => hts _ (List.mem_cons_of_mem _ h)
  have hown : s.vm.findClass R_Dr = some m.cls := findClass_of_methodNamed B.named
  have hlocks := B.notSynchronized
  have hD : va_D (zA [(d, .inr (0, [.ref dn, .ref df, .ref di, .ref dl, .ref dm, .int (zI ((nc : Nat) : Int)), .int (zI ((pp : Nat) : Int))]))]) [(d, .inr (0, [.ref dn, .ref df, .ref di, .ref dl, .ref dm, .int (zI ((nc : Nat) : Int)), .int (zI ((pp : Nat) : Int))]))] := ⟨hD0.1, fun k q h => List.mem_map.mpr ⟨q, List.mem_of_getElem? h, rfl⟩⟩
  generalize hAe : zA [(d, .inr (0, [.ref dn, .ref df, .ref di, .ref dl, .ref dm, .int (zI ((nc : Nat) : Int)), .int (zI ((pp : Nat) : Int))]))] = A at hD ⊢
  have hS : va_S A s.heap s.heap [] := va_S.rf
  have hP : va_P D vwCl [(d, .inr (0, [.ref dn, .ref df, .ref di, .ref dl, .ref dm, .int (zI ((nc : Nat) : Int)), .int (zI ((pp : Nat) : Int))]))] s.heap := hP
  have hl := lv_entry ([.ref d]) (n := 1) (Nat.le_of_ble_eq_true rfl)
  rw [lg_entry_eq]
  generalize (lg_sl ([.ref d]) ++ List.replicate (1 - (lg_sl ([.ref d])).length) Slot.unset).toArray = ls at hl ⊢
  have hl : lv_has ls 1 [(0, .ref d)] := hl
  generalize hQ : MQ below _ _ _ _ _ _ = Q
  refine lv_aload_n hx hb d_Dr_dropAll_0 rfl (lv_at hl 0 rfl) ?_
  refine lv_iconst (v := zI 0) hx hb d_Dr_dropAll_1 (by decide) ?_
  refine va_put (D := D) (ci := 0) (v := .int (zI 0)) (ty := .int) (C := R_Dr) (T := T_Dr) (N := 7) hx hb hts (fun w h => List.mem_cons_of_mem _ (inA_Dr w h)) ty_Dr tyok_Dr nm_Dr hown hK hP hD hS 0 rfl rfl 5 (by decide) (hw k_Dr_f38) (fun _ h9 => h9) rfl (by decide +kernel) rfl rfl (Nat.le_of_ble_eq_true rfl) d_Dr_dropAll_2 (fun H locs hP hD hS => ?_)
  have hP : va_P D vwCl [(d, .inr (0, [.ref dn, .ref df, .ref di, .ref dl, .ref dm, .int (zI 0), .int (zI ((pp : Nat) : Int))]))] H := hP
  have hD : va_D A [(d, .inr (0, [.ref dn, .ref df, .ref di, .ref dl, .ref dm, .int (zI 0), .int (zI ((pp : Nat) : Int))]))] := hD
  refine lv_aload_n hx hb d_Dr_dropAll_5 rfl (lv_at hl 0 rfl) ?_
  refine lv_iconst (v := zI 0) hx hb d_Dr_dropAll_6 (by decide) ?_
  refine va_put (D := D) (ci := 0) (v := .int (zI 0)) (ty := .int) (C := R_Dr) (T := T_Dr) (N := 7) hx hb hts (fun w h => List.mem_cons_of_mem _ (inA_Dr w h)) ty_Dr tyok_Dr nm_Dr hown hK hP hD hS 0 rfl rfl 6 (by decide) (hw k_Dr_f34) (fun _ h9 => h9) rfl (by decide +kernel) rfl rfl (Nat.le_of_ble_eq_true rfl) d_Dr_dropAll_7 (fun H locs hP hD hS => ?_)
  have hP : va_P D vwCl [(d, .inr (0, [.ref dn, .ref df, .ref di, .ref dl, .ref dm, .int (zI 0), .int (zI 0)]))] H := hP
  have hD : va_D A [(d, .inr (0, [.ref dn, .ref df, .ref di, .ref dl, .ref dm, .int (zI 0), .int (zI 0)]))] := hD
  subst hQ
  exact W.vret hx hb hr (fun t9 ht hW => ⟨⟨(), rfl, trivial, by show va_P _ _ _ t9.heap; rw [ht]; exact hP⟩, hS.F ht⟩) hS.2.2 d_Dr_dropAll_10

def rm_addName_no : Room := { frames := 0, cells := 0, slots := 0, locals := 0 }
set_option maxHeartbeats 4000000 in
set_option maxRecDepth 100000 in
/-- Draft.addName, refused -/
theorem c_addName_no (l : Launch) (D : va_G) (c : Nat → ClassId) (d : Nat) (dn : Nat) (df : Nat) (dfw : Nat) (di : Nat) (diw : Nat) (dl : Nat) (dlw : Nat) (dm : Nat) (nm : Nat → Nat) (fw : Nat → Int64) (iw : Nat → Int64) (lw : Nat → Int64) (mb : Nat → Bool) (nc : Nat) (pp : Nat) (x : Nat) (hp : pp ≤ 40) (hc : nc ≤ 255) (hno : pp = 40 ∨ nc = 255) : Met l y_Dr_addName w_Dr_addName rm_addName_no (va_Pc [.ref d, .int (zI ((x : Nat) : Int))] (fun U => va_P D vwCl [(d, .inr (0, [.ref dn, .ref df, .ref di, .ref dl, .ref dm, .int (zI ((nc : Nat) : Int)), .int (zI ((pp : Nat) : Int))])), (dn, .inl (c 0, 255, .inl (fun j => zI ((nm j : Nat) : Int)))), (dm, .inl (c 1, 40, .inl (fun j => zB (mb j))))] U.heap ∧ zK D c U)) (vp_Si (fun r => r = (zB false))) 0 0 (fun _ => False) := by
  refine Met.ofW (cc := b_Dr_addName) (maxL := 4) (ret := (some .boolean)) (by decide) rfl ?_
  intro p e s m args below meth c0 s₁ B hml hv
  obtain ⟨rfl, hP, hKN⟩ := hv
  have hK := hKN.1
  have hN := hKN.2
  have hx := B.exec
  have hb := B.bytes
  have hr := B.returns
  have hts := atoms_spec (ws := w_Dr_addName) B.pre
  have hw : ∀ {w : Cond}, w ∈ ALLW → w.before _ s = true := fun h => hts _ (List.mem_cons_of_mem _ h)
  have hown : s.vm.findClass R_Dr = some m.cls := findClass_of_methodNamed B.named
  have hlocks := B.notSynchronized
  have hl := lv_entry ([.ref d, .int (zI ((x : Nat) : Int))]) (n := 4) (Nat.le_of_ble_eq_true rfl)
  rw [lg_entry_eq]
  generalize (lg_sl ([.ref d, .int (zI ((x : Nat) : Int))]) ++ List.replicate (4 - (lg_sl ([.ref d, .int (zI ((x : Nat) : Int))])).length) Slot.unset).toArray = ls at hl ⊢
  have hl : lv_has ls 4 [(0, .ref d), (1, .int (zI ((x : Nat) : Int)))] := hl
  generalize hQ : MQ below _ _ _ _ _ _ = Q
  refine lv_aload_n hx hb d_Dr_addName_0 rfl (lv_at hl 0 rfl) ?_
  refine va_get (D := D) (ci := 0) (v := .int (zI ((nc : Nat) : Int))) (C := R_Dr) (T := T_Dr) (N := 7) hx hb hts (fun w h => List.mem_cons_of_mem _ (inA_Dr w h)) hown hK hP 0 rfl rfl 5 (by decide) (hw k_Dr_f38) (fun _ h9 => h9) rfl d_Dr_addName_1 ?_
  refine lv_istore_n (lv' := [(2, .int (zI ((nc : Nat) : Int))), (0, .ref d), (1, .int (zI ((x : Nat) : Int)))]) hx hb d_Dr_addName_4 rfl hl (by decide) rfl (fun ls hl => ?_)
  refine lv_aload_n hx hb d_Dr_addName_5 rfl (lv_at hl 1 rfl) ?_
  refine va_get (D := D) (ci := 0) (v := .int (zI ((pp : Nat) : Int))) (C := R_Dr) (T := T_Dr) (N := 7) hx hb hts (fun w h => List.mem_cons_of_mem _ (inA_Dr w h)) hown hK hP 0 rfl rfl 6 (by decide) (hw k_Dr_f34) (fun _ h9 => h9) rfl d_Dr_addName_6 ?_
  refine lv_istore_n (lv' := [(3, .int (zI ((pp : Nat) : Int))), (2, .int (zI ((nc : Nat) : Int))), (0, .ref d), (1, .int (zI ((x : Nat) : Int)))]) hx hb d_Dr_addName_9 rfl hl (by decide) rfl (fun ls hl => ?_)
  refine lv_iload_n hx hb d_Dr_addName_10 rfl (lv_at hl 0 rfl) ?_
  refine z_if_lt (tgt := 36) hx hb (by omega) d_Dr_addName_11 (by decide) (fun hc_11 => absurd hc_11 (by omega)) (fun hc_11 => ?_)
  refine lv_iload_n hx hb d_Dr_addName_14 rfl (lv_at hl 0 rfl) ?_
  refine lv_aload_n hx hb d_Dr_addName_15 rfl (lv_at hl 2 rfl) ?_
  refine va_get (D := D) (ci := 0) (v := .ref dm) (C := R_Dr) (T := T_Dr) (N := 7) hx hb hts (fun w h => List.mem_cons_of_mem _ (inA_Dr w h)) hown hK hP 0 rfl rfl 4 (by decide) (hw k_Dr_f30) (fun _ h9 => h9) rfl d_Dr_addName_16 ?_
  refine z_alen hx hb hK hP 2 1 rfl rfl d_Dr_addName_19 ?_
  refine z_top (v2 := .int (zI (40 : Int))) rfl ?_
  refine z_icmp_ge (tgt := 36) hx hb (by omega) d_Dr_addName_20 (by decide) (fun hc_20 => ?_) (fun hc_20 => ?_)
  · refine lv_iconst (v := zI 0) hx hb d_Dr_addName_36 (by decide) ?_
    subst hQ
    exact W.zret (ty := .boolean) (v := (zI 0)) hx hb hr (by decide) (fun t9 ht hW => ⟨_, rfl, (by decide), ht⟩) (fun q hq => absurd hq List.not_mem_nil) d_Dr_addName_37
  · refine lv_iload_n hx hb d_Dr_addName_23 rfl (lv_at hl 1 rfl) ?_
    refine z_if_lt (tgt := 36) hx hb (by omega) d_Dr_addName_24 (by decide) (fun hc_24 => absurd hc_24 (by omega)) (fun hc_24 => ?_)
    refine lv_iload_n hx hb d_Dr_addName_27 rfl (lv_at hl 1 rfl) ?_
    refine lv_aload_n hx hb d_Dr_addName_28 rfl (lv_at hl 2 rfl) ?_
    refine va_get (D := D) (ci := 0) (v := .ref dn) (C := R_Dr) (T := T_Dr) (N := 7) hx hb hts (fun w h => List.mem_cons_of_mem _ (inA_Dr w h)) hown hK hP 0 rfl rfl 0 (by decide) (hw k_Dr_f9) (fun _ h9 => h9) rfl d_Dr_addName_29 ?_
    refine z_alen hx hb hK hP 1 0 rfl rfl d_Dr_addName_32 ?_
    refine z_top (v2 := .int (zI (255 : Int))) rfl ?_
    refine z_icmp_lt (tgt := 38) hx hb (by omega) d_Dr_addName_33 (by decide) (fun hc_33 => absurd hc_33 (by omega)) (fun hc_33 => ?_)
    refine lv_iconst (v := zI 0) hx hb d_Dr_addName_36 (by decide) ?_
    subst hQ
    exact W.zret (ty := .boolean) (v := (zI 0)) hx hb hr (by decide) (fun t9 ht hW => ⟨_, rfl, (by decide), ht⟩) (fun q hq => absurd hq List.not_mem_nil) d_Dr_addName_37

def rm_addName : Room := { frames := 3, cells := 0, slots := 0, locals := 65 }
set_option maxHeartbeats 4000000 in
set_option maxRecDepth 100000 in
/-- Draft.addName -/
theorem c_addName (l : Launch) (D : va_G) (c : Nat → ClassId) (d : Nat) (dn : Nat) (df : Nat) (dfw : Nat) (di : Nat) (diw : Nat) (dl : Nat) (dlw : Nat) (dm : Nat) (nm : Nat → Nat) (fw : Nat → Int64) (iw : Nat → Int64) (lw : Nat → Int64) (mb : Nat → Bool) (nc : Nat) (pp : Nat) (x : Nat) (hp : pp < 40) (hc : nc < 255) : Met l y_Dr_addName w_Dr_addName rm_addName (va_Pc [.ref d, .int (zI ((x : Nat) : Int))] (fun U => (va_P D vwCl [(d, .inr (0, [.ref dn, .ref df, .ref di, .ref dl, .ref dm, .int (zI ((nc : Nat) : Int)), .int (zI ((pp : Nat) : Int))])), (dn, .inl (c 0, 255, .inl (fun j => zI ((nm j : Nat) : Int)))), (df, .inr (3, [.ref dfw])), (dfw, .inl (c 2, 4 * 255, .inr (.inl fw))), (di, .inr (3, [.ref diw])), (diw, .inl (c 2, 4 * 40, .inr (.inl iw))), (dl, .inr (3, [.ref dlw])), (dlw, .inl (c 2, 4 * 40, .inr (.inl lw))), (dm, .inl (c 1, 40, .inl (fun j => zB (mb j))))] U.heap ∧ va_D (fun _ => True) [(d, .inr (0, [.ref dn, .ref df, .ref di, .ref dl, .ref dm, .int (zI ((nc : Nat) : Int)), .int (zI ((pp : Nat) : Int))])), (dn, .inl (c 0, 255, .inl (fun j => zI ((nm j : Nat) : Int)))), (df, .inr (3, [.ref dfw])), (dfw, .inl (c 2, 4 * 255, .inr (.inl fw))), (di, .inr (3, [.ref diw])), (diw, .inl (c 2, 4 * 40, .inr (.inl iw))), (dl, .inr (3, [.ref dlw])), (dlw, .inl (c 2, 4 * 40, .inr (.inl lw))), (dm, .inl (c 1, 40, .inl (fun j => zB (mb j))))]) ∧ zK D c U)) (va_Qi (fun (r : Int32) (u : Unit) => r = (zB true) ∧ True) (fun (u : Unit) t9 => va_P D vwCl [(d, .inr (0, [.ref dn, .ref df, .ref di, .ref dl, .ref dm, .int (zI ((nc + 1 : Nat) : Int)), .int (zI ((pp + 1 : Nat) : Int))])), (dn, .inl (c 0, 255, .inl (fun j => zI (((va_up nm nc x) j : Nat) : Int)))), (df, .inr (3, [.ref dfw])), (dfw, .inl (c 2, 4 * 255, .inr (.inl (zclr fw nc)))), (di, .inr (3, [.ref diw])), (diw, .inl (c 2, 4 * 40, .inr (.inl (zadd (zclr iw pp) pp nc)))), (dl, .inr (3, [.ref dlw])), (dlw, .inl (c 2, 4 * 40, .inr (.inl (zadd (zclr lw pp) pp nc)))), (dm, .inl (c 1, 40, .inl (fun j => zB ((va_up mb pp false) j))))] t9.heap) (zA [(d, .inr (0, [.ref dn, .ref df, .ref di, .ref dl, .ref dm, .int (zI ((nc : Nat) : Int)), .int (zI ((pp : Nat) : Int))])), (dn, .inl (c 0, 255, .inl (fun j => zI ((nm j : Nat) : Int)))), (df, .inr (3, [.ref dfw])), (dfw, .inl (c 2, 4 * 255, .inr (.inl fw))), (di, .inr (3, [.ref diw])), (diw, .inl (c 2, 4 * 40, .inr (.inl iw))), (dl, .inr (3, [.ref dlw])), (dlw, .inl (c 2, 4 * 40, .inr (.inl lw))), (dm, .inl (c 1, 40, .inl (fun j => zB (mb j))))])) 0 0 (zA [(d, .inr (0, [.ref dn, .ref df, .ref di, .ref dl, .ref dm, .int (zI ((nc : Nat) : Int)), .int (zI ((pp : Nat) : Int))])), (dn, .inl (c 0, 255, .inl (fun j => zI ((nm j : Nat) : Int)))), (df, .inr (3, [.ref dfw])), (dfw, .inl (c 2, 4 * 255, .inr (.inl fw))), (di, .inr (3, [.ref diw])), (diw, .inl (c 2, 4 * 40, .inr (.inl iw))), (dl, .inr (3, [.ref dlw])), (dlw, .inl (c 2, 4 * 40, .inr (.inl lw))), (dm, .inl (c 1, 40, .inl (fun j => zB (mb j))))]) := by
  refine Met.ofW (cc := b_Dr_addName) (maxL := 4) (ret := (some .boolean)) (by decide) rfl ?_
  intro p e s m args below meth c0 s₁ B hml hv
  obtain ⟨rfl, ⟨hP, hD0⟩, hKN⟩ := hv
  have hK := hKN.1
  have hN := hKN.2
  have hx := B.exec
  have hb := B.bytes
  have hr := B.returns
  have hts := atoms_spec (ws := w_Dr_addName) B.pre
  have hw : ∀ {w : Cond}, w ∈ ALLW → w.before _ s = true := fun h => hts _ (List.mem_cons_of_mem _ h)
  have hown : s.vm.findClass R_Dr = some m.cls := findClass_of_methodNamed B.named
  have hlocks := B.notSynchronized
  have hD : va_D (zA [(d, .inr (0, [.ref dn, .ref df, .ref di, .ref dl, .ref dm, .int (zI ((nc : Nat) : Int)), .int (zI ((pp : Nat) : Int))])), (dn, .inl (c 0, 255, .inl (fun j => zI ((nm j : Nat) : Int)))), (df, .inr (3, [.ref dfw])), (dfw, .inl (c 2, 4 * 255, .inr (.inl fw))), (di, .inr (3, [.ref diw])), (diw, .inl (c 2, 4 * 40, .inr (.inl iw))), (dl, .inr (3, [.ref dlw])), (dlw, .inl (c 2, 4 * 40, .inr (.inl lw))), (dm, .inl (c 1, 40, .inl (fun j => zB (mb j))))]) [(d, .inr (0, [.ref dn, .ref df, .ref di, .ref dl, .ref dm, .int (zI ((nc : Nat) : Int)), .int (zI ((pp : Nat) : Int))])), (dn, .inl (c 0, 255, .inl (fun j => zI ((nm j : Nat) : Int)))), (df, .inr (3, [.ref dfw])), (dfw, .inl (c 2, 4 * 255, .inr (.inl fw))), (di, .inr (3, [.ref diw])), (diw, .inl (c 2, 4 * 40, .inr (.inl iw))), (dl, .inr (3, [.ref dlw])), (dlw, .inl (c 2, 4 * 40, .inr (.inl lw))), (dm, .inl (c 1, 40, .inl (fun j => zB (mb j))))] := ⟨hD0.1, fun k q h => List.mem_map.mpr ⟨q, List.mem_of_getElem? h, rfl⟩⟩
  generalize hAe : zA [(d, .inr (0, [.ref dn, .ref df, .ref di, .ref dl, .ref dm, .int (zI ((nc : Nat) : Int)), .int (zI ((pp : Nat) : Int))])), (dn, .inl (c 0, 255, .inl (fun j => zI ((nm j : Nat) : Int)))), (df, .inr (3, [.ref dfw])), (dfw, .inl (c 2, 4 * 255, .inr (.inl fw))), (di, .inr (3, [.ref diw])), (diw, .inl (c 2, 4 * 40, .inr (.inl iw))), (dl, .inr (3, [.ref dlw])), (dlw, .inl (c 2, 4 * 40, .inr (.inl lw))), (dm, .inl (c 1, 40, .inl (fun j => zB (mb j))))] = A at hD ⊢
  have hS : va_S A s.heap s.heap [] := va_S.rf
  have hP : va_P D vwCl [(d, .inr (0, [.ref dn, .ref df, .ref di, .ref dl, .ref dm, .int (zI ((nc : Nat) : Int)), .int (zI ((pp : Nat) : Int))])), (dn, .inl (c 0, 255, .inl (fun j => zI ((nm j : Nat) : Int)))), (df, .inr (3, [.ref dfw])), (dfw, .inl (c 2, 4 * 255, .inr (.inl fw))), (di, .inr (3, [.ref diw])), (diw, .inl (c 2, 4 * 40, .inr (.inl iw))), (dl, .inr (3, [.ref dlw])), (dlw, .inl (c 2, 4 * 40, .inr (.inl lw))), (dm, .inl (c 1, 40, .inl (fun j => zB (mb j))))] s.heap := hP
  have hl := lv_entry ([.ref d, .int (zI ((x : Nat) : Int))]) (n := 4) (Nat.le_of_ble_eq_true rfl)
  rw [lg_entry_eq]
  generalize (lg_sl ([.ref d, .int (zI ((x : Nat) : Int))]) ++ List.replicate (4 - (lg_sl ([.ref d, .int (zI ((x : Nat) : Int))])).length) Slot.unset).toArray = ls at hl ⊢
  have hl : lv_has ls 4 [(0, .ref d), (1, .int (zI ((x : Nat) : Int)))] := hl
  generalize hQ : MQ below _ _ _ _ _ _ = Q
  refine lv_aload_n hx hb d_Dr_addName_0 rfl (lv_at hl 0 rfl) ?_
  refine va_get (D := D) (ci := 0) (v := .int (zI ((nc : Nat) : Int))) (C := R_Dr) (T := T_Dr) (N := 7) hx hb hts (fun w h => List.mem_cons_of_mem _ (inA_Dr w h)) hown hK hP 0 rfl rfl 5 (by decide) (hw k_Dr_f38) (fun _ h9 => h9) rfl d_Dr_addName_1 ?_
  refine lv_istore_n (lv' := [(2, .int (zI ((nc : Nat) : Int))), (0, .ref d), (1, .int (zI ((x : Nat) : Int)))]) hx hb d_Dr_addName_4 rfl hl (by decide) rfl (fun ls hl => ?_)
  refine lv_aload_n hx hb d_Dr_addName_5 rfl (lv_at hl 1 rfl) ?_
  refine va_get (D := D) (ci := 0) (v := .int (zI ((pp : Nat) : Int))) (C := R_Dr) (T := T_Dr) (N := 7) hx hb hts (fun w h => List.mem_cons_of_mem _ (inA_Dr w h)) hown hK hP 0 rfl rfl 6 (by decide) (hw k_Dr_f34) (fun _ h9 => h9) rfl d_Dr_addName_6 ?_
  refine lv_istore_n (lv' := [(3, .int (zI ((pp : Nat) : Int))), (2, .int (zI ((nc : Nat) : Int))), (0, .ref d), (1, .int (zI ((x : Nat) : Int)))]) hx hb d_Dr_addName_9 rfl hl (by decide) rfl (fun ls hl => ?_)
  refine lv_iload_n hx hb d_Dr_addName_10 rfl (lv_at hl 0 rfl) ?_
  refine z_if_lt (tgt := 36) hx hb (by omega) d_Dr_addName_11 (by decide) (fun hc_11 => absurd hc_11 (by omega)) (fun hc_11 => ?_)
  refine lv_iload_n hx hb d_Dr_addName_14 rfl (lv_at hl 0 rfl) ?_
  refine lv_aload_n hx hb d_Dr_addName_15 rfl (lv_at hl 2 rfl) ?_
  refine va_get (D := D) (ci := 0) (v := .ref dm) (C := R_Dr) (T := T_Dr) (N := 7) hx hb hts (fun w h => List.mem_cons_of_mem _ (inA_Dr w h)) hown hK hP 0 rfl rfl 4 (by decide) (hw k_Dr_f30) (fun _ h9 => h9) rfl d_Dr_addName_16 ?_
  refine z_alen hx hb hK hP 8 1 rfl rfl d_Dr_addName_19 ?_
  refine z_top (v2 := .int (zI (40 : Int))) rfl ?_
  refine z_icmp_ge (tgt := 36) hx hb (by omega) d_Dr_addName_20 (by decide) (fun hc_20 => absurd hc_20 (by omega)) (fun hc_20 => ?_)
  refine lv_iload_n hx hb d_Dr_addName_23 rfl (lv_at hl 1 rfl) ?_
  refine z_if_lt (tgt := 36) hx hb (by omega) d_Dr_addName_24 (by decide) (fun hc_24 => absurd hc_24 (by omega)) (fun hc_24 => ?_)
  refine lv_iload_n hx hb d_Dr_addName_27 rfl (lv_at hl 1 rfl) ?_
  refine lv_aload_n hx hb d_Dr_addName_28 rfl (lv_at hl 2 rfl) ?_
  refine va_get (D := D) (ci := 0) (v := .ref dn) (C := R_Dr) (T := T_Dr) (N := 7) hx hb hts (fun w h => List.mem_cons_of_mem _ (inA_Dr w h)) hown hK hP 0 rfl rfl 0 (by decide) (hw k_Dr_f9) (fun _ h9 => h9) rfl d_Dr_addName_29 ?_
  refine z_alen hx hb hK hP 1 0 rfl rfl d_Dr_addName_32 ?_
  refine z_top (v2 := .int (zI (255 : Int))) rfl ?_
  refine z_icmp_lt (tgt := 38) hx hb (by omega) d_Dr_addName_33 (by decide) (fun hc_33 => ?_) (fun hc_33 => absurd hc_33 (by omega))
  refine lv_aload_n hx hb d_Dr_addName_38 rfl (lv_at hl 2 rfl) ?_
  refine va_get (D := D) (ci := 0) (v := .ref dn) (C := R_Dr) (T := T_Dr) (N := 7) hx hb hts (fun w h => List.mem_cons_of_mem _ (inA_Dr w h)) hown hK hP 0 rfl rfl 0 (by decide) (hw k_Dr_f9) (fun _ h9 => h9) rfl d_Dr_addName_39 ?_
  refine lv_iload_n hx hb d_Dr_addName_42 rfl (lv_at hl 1 rfl) ?_
  refine lv_iload_n hx hb d_Dr_addName_43 rfl (lv_at hl 3 rfl) ?_
  refine z_uast hx hb hK hP hD hS 1 0 rfl rfl (nc) (by omega) (by omega) (by omega) d_Dr_addName_44 (fun H locs hP hD hS => ?_)
  have hP : va_P D vwCl [(d, .inr (0, [.ref dn, .ref df, .ref di, .ref dl, .ref dm, .int (zI ((nc : Nat) : Int)), .int (zI ((pp : Nat) : Int))])), (dn, .inl (c 0, 255, .inl (fun j => zI (((va_up nm nc x) j : Nat) : Int)))), (df, .inr (3, [.ref dfw])), (dfw, .inl (c 2, 4 * 255, .inr (.inl fw))), (di, .inr (3, [.ref diw])), (diw, .inl (c 2, 4 * 40, .inr (.inl iw))), (dl, .inr (3, [.ref dlw])), (dlw, .inl (c 2, 4 * 40, .inr (.inl lw))), (dm, .inl (c 1, 40, .inl (fun j => zB (mb j))))] H := hP
  have hD : va_D A [(d, .inr (0, [.ref dn, .ref df, .ref di, .ref dl, .ref dm, .int (zI ((nc : Nat) : Int)), .int (zI ((pp : Nat) : Int))])), (dn, .inl (c 0, 255, .inl (fun j => zI (((va_up nm nc x) j : Nat) : Int)))), (df, .inr (3, [.ref dfw])), (dfw, .inl (c 2, 4 * 255, .inr (.inl fw))), (di, .inr (3, [.ref diw])), (diw, .inl (c 2, 4 * 40, .inr (.inl iw))), (dl, .inr (3, [.ref dlw])), (dlw, .inl (c 2, 4 * 40, .inr (.inl lw))), (dm, .inl (c 1, 40, .inl (fun j => zB (mb j))))] := hD
  refine lv_aload_n hx hb d_Dr_addName_45 rfl (lv_at hl 2 rfl) ?_
  refine va_get (D := D) (ci := 0) (v := .ref df) (C := R_Dr) (T := T_Dr) (N := 7) hx hb hts (fun w h => List.mem_cons_of_mem _ (inA_Dr w h)) hown hK hP 0 rfl rfl 1 (by decide) (hw k_Dr_f20) (fun _ h9 => h9) rfl d_Dr_addName_46 ?_
  refine lv_iload_n hx hb d_Dr_addName_49 rfl (lv_at hl 1 rfl) ?_
  have hPc : va_P D vwCl [(df, .inr (3, [.ref dfw])), (dfw, .inl (c 2, 4 * 255, .inr (.inl fw)))] H := hP.sub (ws' := [(df, .inr (3, [.ref dfw])), (dfw, .inl (c 2, 4 * 255, .inr (.inl fw)))]) [2, 3] rfl
  have hDc : va_D A [(df, .inr (3, [.ref dfw])), (dfw, .inl (c 2, 4 * 255, .inr (.inl fw)))] := hD.sub (ws' := [(df, .inr (3, [.ref dfw])), (dfw, .inl (c 2, 4 * 255, .inr (.inl fw)))]) [2, 3] (by decide) rfl
  have hDt : va_D (fun _ => True) [(df, .inr (3, [.ref dfw])), (dfw, .inl (c 2, 4 * 255, .inr (.inl fw)))] := hDc.weaken (fun _ _ _ _ => trivial)
  refine z_callv (S := Unit) (w1 := fun u => [(df, .inr (3, [.ref dfw])), (dfw, .inl (c 2, 4 * 255, .inr (.inl (zclr fw nc))))]) (post := fun u => True) (wc := [(df, .inr (3, [.ref dfw])), (dfw, .inl (c 2, 4 * 255, .inr (.inl fw)))]) [2, 3] rfl (fun _ => rfl) hP hD hS (va_runV (rm := rm_removeAll) (As := [.int (zI ((nc : Nat) : Int))]) (rest := []) ⟨hx, hb, hml, hown, hts⟩ (c_removeAll l D c df dfw 255 fw nc (by omega) (by omega)) (cwV 1 hts (gWV k_Dr_m41 k_i_Se_removeAll k_v_Se_removeAll k_n_Se k_c_Se_removeAll) rfl rfl rfl (by decide +kernel) ⟨Nat.le_of_ble_eq_true rfl, Nat.le_of_ble_eq_true rfl⟩) ⟨zblindW, va_recv hK hPc (ci := 3) (q0 := 0) rfl rfl, fun U hU hW => ⟨rfl, ⟨by rw [hU]; exact hPc, hDt⟩, hKN.moved hW⟩⟩ rfl rfl hl.1 rfl (lv_room (Nat.le_of_ble_eq_true rfl)) d_Dr_addName_50 ⟨Nat.zero_le _, Nat.zero_le _⟩) (fun u H locs hp_1 hP hD hS => ?_)
  have hP : va_P D vwCl [(d, .inr (0, [.ref dn, .ref df, .ref di, .ref dl, .ref dm, .int (zI ((nc : Nat) : Int)), .int (zI ((pp : Nat) : Int))])), (dn, .inl (c 0, 255, .inl (fun j => zI (((va_up nm nc x) j : Nat) : Int)))), (df, .inr (3, [.ref dfw])), (dfw, .inl (c 2, 4 * 255, .inr (.inl (zclr fw nc)))), (di, .inr (3, [.ref diw])), (diw, .inl (c 2, 4 * 40, .inr (.inl iw))), (dl, .inr (3, [.ref dlw])), (dlw, .inl (c 2, 4 * 40, .inr (.inl lw))), (dm, .inl (c 1, 40, .inl (fun j => zB (mb j))))] H := hP
  have hD : va_D A [(d, .inr (0, [.ref dn, .ref df, .ref di, .ref dl, .ref dm, .int (zI ((nc : Nat) : Int)), .int (zI ((pp : Nat) : Int))])), (dn, .inl (c 0, 255, .inl (fun j => zI (((va_up nm nc x) j : Nat) : Int)))), (df, .inr (3, [.ref dfw])), (dfw, .inl (c 2, 4 * 255, .inr (.inl (zclr fw nc)))), (di, .inr (3, [.ref diw])), (diw, .inl (c 2, 4 * 40, .inr (.inl iw))), (dl, .inr (3, [.ref dlw])), (dlw, .inl (c 2, 4 * 40, .inr (.inl lw))), (dm, .inl (c 1, 40, .inl (fun j => zB (mb j))))] := hD
  refine lv_aload_n hx hb d_Dr_addName_53 rfl (lv_at hl 2 rfl) ?_
  refine va_get (D := D) (ci := 0) (v := .ref di) (C := R_Dr) (T := T_Dr) (N := 7) hx hb hts (fun w h => List.mem_cons_of_mem _ (inA_Dr w h)) hown hK hP 0 rfl rfl 2 (by decide) (hw k_Dr_f24) (fun _ h9 => h9) rfl d_Dr_addName_54 ?_
  refine lv_iload_n hx hb d_Dr_addName_57 rfl (lv_at hl 0 rfl) ?_
  have hPc : va_P D vwCl [(di, .inr (3, [.ref diw])), (diw, .inl (c 2, 4 * 40, .inr (.inl iw)))] H := hP.sub (ws' := [(di, .inr (3, [.ref diw])), (diw, .inl (c 2, 4 * 40, .inr (.inl iw)))]) [4, 5] rfl
  have hDc : va_D A [(di, .inr (3, [.ref diw])), (diw, .inl (c 2, 4 * 40, .inr (.inl iw)))] := hD.sub (ws' := [(di, .inr (3, [.ref diw])), (diw, .inl (c 2, 4 * 40, .inr (.inl iw)))]) [4, 5] (by decide) rfl
  have hDt : va_D (fun _ => True) [(di, .inr (3, [.ref diw])), (diw, .inl (c 2, 4 * 40, .inr (.inl iw)))] := hDc.weaken (fun _ _ _ _ => trivial)
  refine z_callv (S := Unit) (w1 := fun u => [(di, .inr (3, [.ref diw])), (diw, .inl (c 2, 4 * 40, .inr (.inl (zclr iw pp))))]) (post := fun u => True) (wc := [(di, .inr (3, [.ref diw])), (diw, .inl (c 2, 4 * 40, .inr (.inl iw)))]) [4, 5] rfl (fun _ => rfl) hP hD hS (va_runV (rm := rm_removeAll) (As := [.int (zI ((pp : Nat) : Int))]) (rest := []) ⟨hx, hb, hml, hown, hts⟩ (c_removeAll l D c di diw 40 iw pp (by omega) (by omega)) (cwV 1 hts (gWV k_Dr_m41 k_i_Se_removeAll k_v_Se_removeAll k_n_Se k_c_Se_removeAll) rfl rfl rfl (by decide +kernel) ⟨Nat.le_of_ble_eq_true rfl, Nat.le_of_ble_eq_true rfl⟩) ⟨zblindW, va_recv hK hPc (ci := 3) (q0 := 0) rfl rfl, fun U hU hW => ⟨rfl, ⟨by rw [hU]; exact hPc, hDt⟩, hKN.moved hW⟩⟩ rfl rfl hl.1 rfl (lv_room (Nat.le_of_ble_eq_true rfl)) d_Dr_addName_58 ⟨Nat.zero_le _, Nat.zero_le _⟩) (fun u H locs hp_2 hP hD hS => ?_)
  have hP : va_P D vwCl [(d, .inr (0, [.ref dn, .ref df, .ref di, .ref dl, .ref dm, .int (zI ((nc : Nat) : Int)), .int (zI ((pp : Nat) : Int))])), (dn, .inl (c 0, 255, .inl (fun j => zI (((va_up nm nc x) j : Nat) : Int)))), (df, .inr (3, [.ref dfw])), (dfw, .inl (c 2, 4 * 255, .inr (.inl (zclr fw nc)))), (di, .inr (3, [.ref diw])), (diw, .inl (c 2, 4 * 40, .inr (.inl (zclr iw pp)))), (dl, .inr (3, [.ref dlw])), (dlw, .inl (c 2, 4 * 40, .inr (.inl lw))), (dm, .inl (c 1, 40, .inl (fun j => zB (mb j))))] H := hP
  have hD : va_D A [(d, .inr (0, [.ref dn, .ref df, .ref di, .ref dl, .ref dm, .int (zI ((nc : Nat) : Int)), .int (zI ((pp : Nat) : Int))])), (dn, .inl (c 0, 255, .inl (fun j => zI (((va_up nm nc x) j : Nat) : Int)))), (df, .inr (3, [.ref dfw])), (dfw, .inl (c 2, 4 * 255, .inr (.inl (zclr fw nc)))), (di, .inr (3, [.ref diw])), (diw, .inl (c 2, 4 * 40, .inr (.inl (zclr iw pp)))), (dl, .inr (3, [.ref dlw])), (dlw, .inl (c 2, 4 * 40, .inr (.inl lw))), (dm, .inl (c 1, 40, .inl (fun j => zB (mb j))))] := hD
  refine lv_aload_n hx hb d_Dr_addName_61 rfl (lv_at hl 2 rfl) ?_
  refine va_get (D := D) (ci := 0) (v := .ref di) (C := R_Dr) (T := T_Dr) (N := 7) hx hb hts (fun w h => List.mem_cons_of_mem _ (inA_Dr w h)) hown hK hP 0 rfl rfl 2 (by decide) (hw k_Dr_f24) (fun _ h9 => h9) rfl d_Dr_addName_62 ?_
  refine lv_iload_n hx hb d_Dr_addName_65 rfl (lv_at hl 0 rfl) ?_
  refine lv_iload_n hx hb d_Dr_addName_66 rfl (lv_at hl 1 rfl) ?_
  have hPc : va_P D vwCl [(di, .inr (3, [.ref diw])), (diw, .inl (c 2, 4 * 40, .inr (.inl (zclr iw pp))))] H := hP.sub (ws' := [(di, .inr (3, [.ref diw])), (diw, .inl (c 2, 4 * 40, .inr (.inl (zclr iw pp))))]) [4, 5] rfl
  have hDc : va_D A [(di, .inr (3, [.ref diw])), (diw, .inl (c 2, 4 * 40, .inr (.inl (zclr iw pp))))] := hD.sub (ws' := [(di, .inr (3, [.ref diw])), (diw, .inl (c 2, 4 * 40, .inr (.inl (zclr iw pp))))]) [4, 5] (by decide) rfl
  have hDt : va_D (fun _ => True) [(di, .inr (3, [.ref diw])), (diw, .inl (c 2, 4 * 40, .inr (.inl (zclr iw pp))))] := hDc.weaken (fun _ _ _ _ => trivial)
  refine z_callv (S := Unit) (w1 := fun u => [(di, .inr (3, [.ref diw])), (diw, .inl (c 2, 4 * 40, .inr (.inl (zadd (zclr iw pp) pp nc))))]) (post := fun u => True) (wc := [(di, .inr (3, [.ref diw])), (diw, .inl (c 2, 4 * 40, .inr (.inl (zclr iw pp))))]) [4, 5] rfl (fun _ => rfl) hP hD hS (va_runV (rm := rm_add) (As := [.int (zI ((pp : Nat) : Int)), .int (zI ((nc : Nat) : Int))]) (rest := []) ⟨hx, hb, hml, hown, hts⟩ (c_add l D c di diw 40 (zclr iw pp) pp nc (by omega) (by omega) (by omega)) (cwV 2 hts (gWV k_Dr_m44 k_i_Se_add k_v_Se_add k_n_Se k_c_Se_add) rfl rfl rfl (by decide +kernel) ⟨Nat.le_of_ble_eq_true rfl, Nat.le_of_ble_eq_true rfl⟩) ⟨zblindW, va_recv hK hPc (ci := 3) (q0 := 0) rfl rfl, fun U hU hW => ⟨rfl, ⟨by rw [hU]; exact hPc, hDt⟩, hKN.moved hW⟩⟩ rfl rfl hl.1 rfl (lv_room (Nat.le_of_ble_eq_true rfl)) d_Dr_addName_67 ⟨Nat.zero_le _, Nat.zero_le _⟩) (fun u H locs hp_3 hP hD hS => ?_)
  have hP : va_P D vwCl [(d, .inr (0, [.ref dn, .ref df, .ref di, .ref dl, .ref dm, .int (zI ((nc : Nat) : Int)), .int (zI ((pp : Nat) : Int))])), (dn, .inl (c 0, 255, .inl (fun j => zI (((va_up nm nc x) j : Nat) : Int)))), (df, .inr (3, [.ref dfw])), (dfw, .inl (c 2, 4 * 255, .inr (.inl (zclr fw nc)))), (di, .inr (3, [.ref diw])), (diw, .inl (c 2, 4 * 40, .inr (.inl (zadd (zclr iw pp) pp nc)))), (dl, .inr (3, [.ref dlw])), (dlw, .inl (c 2, 4 * 40, .inr (.inl lw))), (dm, .inl (c 1, 40, .inl (fun j => zB (mb j))))] H := hP
  have hD : va_D A [(d, .inr (0, [.ref dn, .ref df, .ref di, .ref dl, .ref dm, .int (zI ((nc : Nat) : Int)), .int (zI ((pp : Nat) : Int))])), (dn, .inl (c 0, 255, .inl (fun j => zI (((va_up nm nc x) j : Nat) : Int)))), (df, .inr (3, [.ref dfw])), (dfw, .inl (c 2, 4 * 255, .inr (.inl (zclr fw nc)))), (di, .inr (3, [.ref diw])), (diw, .inl (c 2, 4 * 40, .inr (.inl (zadd (zclr iw pp) pp nc)))), (dl, .inr (3, [.ref dlw])), (dlw, .inl (c 2, 4 * 40, .inr (.inl lw))), (dm, .inl (c 1, 40, .inl (fun j => zB (mb j))))] := hD
  refine lv_aload_n hx hb d_Dr_addName_70 rfl (lv_at hl 2 rfl) ?_
  refine va_get (D := D) (ci := 0) (v := .ref dl) (C := R_Dr) (T := T_Dr) (N := 7) hx hb hts (fun w h => List.mem_cons_of_mem _ (inA_Dr w h)) hown hK hP 0 rfl rfl 3 (by decide) (hw k_Dr_f27) (fun _ h9 => h9) rfl d_Dr_addName_71 ?_
  refine lv_iload_n hx hb d_Dr_addName_74 rfl (lv_at hl 0 rfl) ?_
  have hPc : va_P D vwCl [(dl, .inr (3, [.ref dlw])), (dlw, .inl (c 2, 4 * 40, .inr (.inl lw)))] H := hP.sub (ws' := [(dl, .inr (3, [.ref dlw])), (dlw, .inl (c 2, 4 * 40, .inr (.inl lw)))]) [6, 7] rfl
  have hDc : va_D A [(dl, .inr (3, [.ref dlw])), (dlw, .inl (c 2, 4 * 40, .inr (.inl lw)))] := hD.sub (ws' := [(dl, .inr (3, [.ref dlw])), (dlw, .inl (c 2, 4 * 40, .inr (.inl lw)))]) [6, 7] (by decide) rfl
  have hDt : va_D (fun _ => True) [(dl, .inr (3, [.ref dlw])), (dlw, .inl (c 2, 4 * 40, .inr (.inl lw)))] := hDc.weaken (fun _ _ _ _ => trivial)
  refine z_callv (S := Unit) (w1 := fun u => [(dl, .inr (3, [.ref dlw])), (dlw, .inl (c 2, 4 * 40, .inr (.inl (zclr lw pp))))]) (post := fun u => True) (wc := [(dl, .inr (3, [.ref dlw])), (dlw, .inl (c 2, 4 * 40, .inr (.inl lw)))]) [6, 7] rfl (fun _ => rfl) hP hD hS (va_runV (rm := rm_removeAll) (As := [.int (zI ((pp : Nat) : Int))]) (rest := []) ⟨hx, hb, hml, hown, hts⟩ (c_removeAll l D c dl dlw 40 lw pp (by omega) (by omega)) (cwV 1 hts (gWV k_Dr_m41 k_i_Se_removeAll k_v_Se_removeAll k_n_Se k_c_Se_removeAll) rfl rfl rfl (by decide +kernel) ⟨Nat.le_of_ble_eq_true rfl, Nat.le_of_ble_eq_true rfl⟩) ⟨zblindW, va_recv hK hPc (ci := 3) (q0 := 0) rfl rfl, fun U hU hW => ⟨rfl, ⟨by rw [hU]; exact hPc, hDt⟩, hKN.moved hW⟩⟩ rfl rfl hl.1 rfl (lv_room (Nat.le_of_ble_eq_true rfl)) d_Dr_addName_75 ⟨Nat.zero_le _, Nat.zero_le _⟩) (fun u H locs hp_4 hP hD hS => ?_)
  have hP : va_P D vwCl [(d, .inr (0, [.ref dn, .ref df, .ref di, .ref dl, .ref dm, .int (zI ((nc : Nat) : Int)), .int (zI ((pp : Nat) : Int))])), (dn, .inl (c 0, 255, .inl (fun j => zI (((va_up nm nc x) j : Nat) : Int)))), (df, .inr (3, [.ref dfw])), (dfw, .inl (c 2, 4 * 255, .inr (.inl (zclr fw nc)))), (di, .inr (3, [.ref diw])), (diw, .inl (c 2, 4 * 40, .inr (.inl (zadd (zclr iw pp) pp nc)))), (dl, .inr (3, [.ref dlw])), (dlw, .inl (c 2, 4 * 40, .inr (.inl (zclr lw pp)))), (dm, .inl (c 1, 40, .inl (fun j => zB (mb j))))] H := hP
  have hD : va_D A [(d, .inr (0, [.ref dn, .ref df, .ref di, .ref dl, .ref dm, .int (zI ((nc : Nat) : Int)), .int (zI ((pp : Nat) : Int))])), (dn, .inl (c 0, 255, .inl (fun j => zI (((va_up nm nc x) j : Nat) : Int)))), (df, .inr (3, [.ref dfw])), (dfw, .inl (c 2, 4 * 255, .inr (.inl (zclr fw nc)))), (di, .inr (3, [.ref diw])), (diw, .inl (c 2, 4 * 40, .inr (.inl (zadd (zclr iw pp) pp nc)))), (dl, .inr (3, [.ref dlw])), (dlw, .inl (c 2, 4 * 40, .inr (.inl (zclr lw pp)))), (dm, .inl (c 1, 40, .inl (fun j => zB (mb j))))] := hD
  refine lv_aload_n hx hb d_Dr_addName_78 rfl (lv_at hl 2 rfl) ?_
  refine va_get (D := D) (ci := 0) (v := .ref dl) (C := R_Dr) (T := T_Dr) (N := 7) hx hb hts (fun w h => List.mem_cons_of_mem _ (inA_Dr w h)) hown hK hP 0 rfl rfl 3 (by decide) (hw k_Dr_f27) (fun _ h9 => h9) rfl d_Dr_addName_79 ?_
  refine lv_iload_n hx hb d_Dr_addName_82 rfl (lv_at hl 0 rfl) ?_
  refine lv_iload_n hx hb d_Dr_addName_83 rfl (lv_at hl 1 rfl) ?_
  have hPc : va_P D vwCl [(dl, .inr (3, [.ref dlw])), (dlw, .inl (c 2, 4 * 40, .inr (.inl (zclr lw pp))))] H := hP.sub (ws' := [(dl, .inr (3, [.ref dlw])), (dlw, .inl (c 2, 4 * 40, .inr (.inl (zclr lw pp))))]) [6, 7] rfl
  have hDc : va_D A [(dl, .inr (3, [.ref dlw])), (dlw, .inl (c 2, 4 * 40, .inr (.inl (zclr lw pp))))] := hD.sub (ws' := [(dl, .inr (3, [.ref dlw])), (dlw, .inl (c 2, 4 * 40, .inr (.inl (zclr lw pp))))]) [6, 7] (by decide) rfl
  have hDt : va_D (fun _ => True) [(dl, .inr (3, [.ref dlw])), (dlw, .inl (c 2, 4 * 40, .inr (.inl (zclr lw pp))))] := hDc.weaken (fun _ _ _ _ => trivial)
  refine z_callv (S := Unit) (w1 := fun u => [(dl, .inr (3, [.ref dlw])), (dlw, .inl (c 2, 4 * 40, .inr (.inl (zadd (zclr lw pp) pp nc))))]) (post := fun u => True) (wc := [(dl, .inr (3, [.ref dlw])), (dlw, .inl (c 2, 4 * 40, .inr (.inl (zclr lw pp))))]) [6, 7] rfl (fun _ => rfl) hP hD hS (va_runV (rm := rm_add) (As := [.int (zI ((pp : Nat) : Int)), .int (zI ((nc : Nat) : Int))]) (rest := []) ⟨hx, hb, hml, hown, hts⟩ (c_add l D c dl dlw 40 (zclr lw pp) pp nc (by omega) (by omega) (by omega)) (cwV 2 hts (gWV k_Dr_m44 k_i_Se_add k_v_Se_add k_n_Se k_c_Se_add) rfl rfl rfl (by decide +kernel) ⟨Nat.le_of_ble_eq_true rfl, Nat.le_of_ble_eq_true rfl⟩) ⟨zblindW, va_recv hK hPc (ci := 3) (q0 := 0) rfl rfl, fun U hU hW => ⟨rfl, ⟨by rw [hU]; exact hPc, hDt⟩, hKN.moved hW⟩⟩ rfl rfl hl.1 rfl (lv_room (Nat.le_of_ble_eq_true rfl)) d_Dr_addName_84 ⟨Nat.zero_le _, Nat.zero_le _⟩) (fun u H locs hp_5 hP hD hS => ?_)
  have hP : va_P D vwCl [(d, .inr (0, [.ref dn, .ref df, .ref di, .ref dl, .ref dm, .int (zI ((nc : Nat) : Int)), .int (zI ((pp : Nat) : Int))])), (dn, .inl (c 0, 255, .inl (fun j => zI (((va_up nm nc x) j : Nat) : Int)))), (df, .inr (3, [.ref dfw])), (dfw, .inl (c 2, 4 * 255, .inr (.inl (zclr fw nc)))), (di, .inr (3, [.ref diw])), (diw, .inl (c 2, 4 * 40, .inr (.inl (zadd (zclr iw pp) pp nc)))), (dl, .inr (3, [.ref dlw])), (dlw, .inl (c 2, 4 * 40, .inr (.inl (zadd (zclr lw pp) pp nc)))), (dm, .inl (c 1, 40, .inl (fun j => zB (mb j))))] H := hP
  have hD : va_D A [(d, .inr (0, [.ref dn, .ref df, .ref di, .ref dl, .ref dm, .int (zI ((nc : Nat) : Int)), .int (zI ((pp : Nat) : Int))])), (dn, .inl (c 0, 255, .inl (fun j => zI (((va_up nm nc x) j : Nat) : Int)))), (df, .inr (3, [.ref dfw])), (dfw, .inl (c 2, 4 * 255, .inr (.inl (zclr fw nc)))), (di, .inr (3, [.ref diw])), (diw, .inl (c 2, 4 * 40, .inr (.inl (zadd (zclr iw pp) pp nc)))), (dl, .inr (3, [.ref dlw])), (dlw, .inl (c 2, 4 * 40, .inr (.inl (zadd (zclr lw pp) pp nc)))), (dm, .inl (c 1, 40, .inl (fun j => zB (mb j))))] := hD
  refine lv_aload_n hx hb d_Dr_addName_87 rfl (lv_at hl 2 rfl) ?_
  refine va_get (D := D) (ci := 0) (v := .ref dm) (C := R_Dr) (T := T_Dr) (N := 7) hx hb hts (fun w h => List.mem_cons_of_mem _ (inA_Dr w h)) hown hK hP 0 rfl rfl 4 (by decide) (hw k_Dr_f30) (fun _ h9 => h9) rfl d_Dr_addName_88 ?_
  refine lv_iload_n hx hb d_Dr_addName_91 rfl (lv_at hl 0 rfl) ?_
  refine lv_iconst (v := zI 0) hx hb d_Dr_addName_92 (by decide) ?_
  refine z_top (v2 := .int (zB false)) (congrArg Value.int (by decide)) ?_
  refine z_zast hx hb hK hP hD hS 8 1 rfl rfl (pp) (by omega) (by omega) (by omega) d_Dr_addName_93 (fun H locs hP hD hS => ?_)
  have hP : va_P D vwCl [(d, .inr (0, [.ref dn, .ref df, .ref di, .ref dl, .ref dm, .int (zI ((nc : Nat) : Int)), .int (zI ((pp : Nat) : Int))])), (dn, .inl (c 0, 255, .inl (fun j => zI (((va_up nm nc x) j : Nat) : Int)))), (df, .inr (3, [.ref dfw])), (dfw, .inl (c 2, 4 * 255, .inr (.inl (zclr fw nc)))), (di, .inr (3, [.ref diw])), (diw, .inl (c 2, 4 * 40, .inr (.inl (zadd (zclr iw pp) pp nc)))), (dl, .inr (3, [.ref dlw])), (dlw, .inl (c 2, 4 * 40, .inr (.inl (zadd (zclr lw pp) pp nc)))), (dm, .inl (c 1, 40, .inl (fun j => zB ((va_up mb pp false) j))))] H := hP
  have hD : va_D A [(d, .inr (0, [.ref dn, .ref df, .ref di, .ref dl, .ref dm, .int (zI ((nc : Nat) : Int)), .int (zI ((pp : Nat) : Int))])), (dn, .inl (c 0, 255, .inl (fun j => zI (((va_up nm nc x) j : Nat) : Int)))), (df, .inr (3, [.ref dfw])), (dfw, .inl (c 2, 4 * 255, .inr (.inl (zclr fw nc)))), (di, .inr (3, [.ref diw])), (diw, .inl (c 2, 4 * 40, .inr (.inl (zadd (zclr iw pp) pp nc)))), (dl, .inr (3, [.ref dlw])), (dlw, .inl (c 2, 4 * 40, .inr (.inl (zadd (zclr lw pp) pp nc)))), (dm, .inl (c 1, 40, .inl (fun j => zB ((va_up mb pp false) j))))] := hD
  refine lv_aload_n hx hb d_Dr_addName_94 rfl (lv_at hl 2 rfl) ?_
  refine lv_iload_n hx hb d_Dr_addName_95 rfl (lv_at hl 1 rfl) ?_
  refine lv_iconst (v := zI 1) hx hb d_Dr_addName_96 (by decide) ?_
  refine z_iadd hx hb d_Dr_addName_97 ?_
  refine z_top (v2 := .int (zI ((nc + 1 : Nat) : Int))) (congrArg Value.int (congrArg zI (by omega))) ?_
  refine va_put (D := D) (ci := 0) (v := .int (zI ((nc + 1 : Nat) : Int))) (ty := .int) (C := R_Dr) (T := T_Dr) (N := 7) hx hb hts (fun w h => List.mem_cons_of_mem _ (inA_Dr w h)) ty_Dr tyok_Dr nm_Dr hown hK hP hD hS 0 rfl rfl 5 (by decide) (hw k_Dr_f38) (fun _ h9 => h9) rfl (by decide +kernel) rfl rfl (Nat.le_of_ble_eq_true rfl) d_Dr_addName_98 (fun H locs hP hD hS => ?_)
  have hP : va_P D vwCl [(d, .inr (0, [.ref dn, .ref df, .ref di, .ref dl, .ref dm, .int (zI ((nc + 1 : Nat) : Int)), .int (zI ((pp : Nat) : Int))])), (dn, .inl (c 0, 255, .inl (fun j => zI (((va_up nm nc x) j : Nat) : Int)))), (df, .inr (3, [.ref dfw])), (dfw, .inl (c 2, 4 * 255, .inr (.inl (zclr fw nc)))), (di, .inr (3, [.ref diw])), (diw, .inl (c 2, 4 * 40, .inr (.inl (zadd (zclr iw pp) pp nc)))), (dl, .inr (3, [.ref dlw])), (dlw, .inl (c 2, 4 * 40, .inr (.inl (zadd (zclr lw pp) pp nc)))), (dm, .inl (c 1, 40, .inl (fun j => zB ((va_up mb pp false) j))))] H := hP
  have hD : va_D A [(d, .inr (0, [.ref dn, .ref df, .ref di, .ref dl, .ref dm, .int (zI ((nc + 1 : Nat) : Int)), .int (zI ((pp : Nat) : Int))])), (dn, .inl (c 0, 255, .inl (fun j => zI (((va_up nm nc x) j : Nat) : Int)))), (df, .inr (3, [.ref dfw])), (dfw, .inl (c 2, 4 * 255, .inr (.inl (zclr fw nc)))), (di, .inr (3, [.ref diw])), (diw, .inl (c 2, 4 * 40, .inr (.inl (zadd (zclr iw pp) pp nc)))), (dl, .inr (3, [.ref dlw])), (dlw, .inl (c 2, 4 * 40, .inr (.inl (zadd (zclr lw pp) pp nc)))), (dm, .inl (c 1, 40, .inl (fun j => zB ((va_up mb pp false) j))))] := hD
  refine lv_aload_n hx hb d_Dr_addName_101 rfl (lv_at hl 2 rfl) ?_
  refine lv_iload_n hx hb d_Dr_addName_102 rfl (lv_at hl 0 rfl) ?_
  refine lv_iconst (v := zI 1) hx hb d_Dr_addName_103 (by decide) ?_
  refine z_iadd hx hb d_Dr_addName_104 ?_
  refine z_top (v2 := .int (zI ((pp + 1 : Nat) : Int))) (congrArg Value.int (congrArg zI (by omega))) ?_
  refine va_put (D := D) (ci := 0) (v := .int (zI ((pp + 1 : Nat) : Int))) (ty := .int) (C := R_Dr) (T := T_Dr) (N := 7) hx hb hts (fun w h => List.mem_cons_of_mem _ (inA_Dr w h)) ty_Dr tyok_Dr nm_Dr hown hK hP hD hS 0 rfl rfl 6 (by decide) (hw k_Dr_f34) (fun _ h9 => h9) rfl (by decide +kernel) rfl rfl (Nat.le_of_ble_eq_true rfl) d_Dr_addName_105 (fun H locs hP hD hS => ?_)
  have hP : va_P D vwCl [(d, .inr (0, [.ref dn, .ref df, .ref di, .ref dl, .ref dm, .int (zI ((nc + 1 : Nat) : Int)), .int (zI ((pp + 1 : Nat) : Int))])), (dn, .inl (c 0, 255, .inl (fun j => zI (((va_up nm nc x) j : Nat) : Int)))), (df, .inr (3, [.ref dfw])), (dfw, .inl (c 2, 4 * 255, .inr (.inl (zclr fw nc)))), (di, .inr (3, [.ref diw])), (diw, .inl (c 2, 4 * 40, .inr (.inl (zadd (zclr iw pp) pp nc)))), (dl, .inr (3, [.ref dlw])), (dlw, .inl (c 2, 4 * 40, .inr (.inl (zadd (zclr lw pp) pp nc)))), (dm, .inl (c 1, 40, .inl (fun j => zB ((va_up mb pp false) j))))] H := hP
  have hD : va_D A [(d, .inr (0, [.ref dn, .ref df, .ref di, .ref dl, .ref dm, .int (zI ((nc + 1 : Nat) : Int)), .int (zI ((pp + 1 : Nat) : Int))])), (dn, .inl (c 0, 255, .inl (fun j => zI (((va_up nm nc x) j : Nat) : Int)))), (df, .inr (3, [.ref dfw])), (dfw, .inl (c 2, 4 * 255, .inr (.inl (zclr fw nc)))), (di, .inr (3, [.ref diw])), (diw, .inl (c 2, 4 * 40, .inr (.inl (zadd (zclr iw pp) pp nc)))), (dl, .inr (3, [.ref dlw])), (dlw, .inl (c 2, 4 * 40, .inr (.inl (zadd (zclr lw pp) pp nc)))), (dm, .inl (c 1, 40, .inl (fun j => zB ((va_up mb pp false) j))))] := hD
  refine lv_iconst (v := zI 1) hx hb d_Dr_addName_108 (by decide) ?_
  subst hQ
  exact W.zret (ty := .boolean) (v := (zI 1)) hx hb hr (by decide) (fun t9 ht hW => ⟨⟨_, (), rfl, ⟨(by decide), trivial⟩, by show va_P _ _ _ t9.heap; rw [ht]; exact hP⟩, hS.F ht⟩) hS.2.2 d_Dr_addName_109

def rm_joinToRow_no : Room := { frames := 1, cells := 0, slots := 0, locals := 21 }
set_option maxHeartbeats 4000000 in
set_option maxRecDepth 100000 in
/-- Draft.joinToRow, refused -/
theorem c_joinToRow_no (l : Launch) (D : va_G) (c : Nat → ClassId) (d : Nat) (dn : Nat) (df : Nat) (dfw : Nat) (di : Nat) (diw : Nat) (dl : Nat) (dlw : Nat) (dm : Nat) (nm : Nat → Nat) (fw : Nat → Int64) (iw : Nat → Int64) (lw : Nat → Int64) (mb : Nat → Bool) (nc : Nat) (pp : Nat) (hp : pp < 2) : Met l y_Dr_joinToRow w_Dr_joinToRow rm_joinToRow_no (va_Pc [.ref d] (fun U => va_P D vwCl [(d, .inr (0, [.ref dn, .ref df, .ref di, .ref dl, .ref dm, .int (zI ((nc : Nat) : Int)), .int (zI ((pp : Nat) : Int))])), (dm, .inl (c 1, 40, .inl (fun j => zB (mb j))))] U.heap ∧ zK D c U)) (vp_Si (fun r => r = (zB false))) 0 0 (fun _ => False) := by
  refine Met.ofW (cc := b_Dr_joinToRow) (maxL := 3) (ret := (some .boolean)) (by decide) rfl ?_
  intro p e s m args below meth c0 s₁ B hml hv
  obtain ⟨rfl, hP, hKN⟩ := hv
  have hK := hKN.1
  have hN := hKN.2
  have hx := B.exec
  have hb := B.bytes
  have hr := B.returns
  have hts := atoms_spec (ws := w_Dr_joinToRow) B.pre
  have hw : ∀ {w : Cond}, w ∈ ALLW → w.before _ s = true := fun h => hts _ (List.mem_cons_of_mem _ h)
  have hown : s.vm.findClass R_Dr = some m.cls := findClass_of_methodNamed B.named
  have hlocks := B.notSynchronized
  have hl := lv_entry ([.ref d]) (n := 3) (Nat.le_of_ble_eq_true rfl)
  rw [lg_entry_eq]
  generalize (lg_sl ([.ref d]) ++ List.replicate (3 - (lg_sl ([.ref d])).length) Slot.unset).toArray = ls at hl ⊢
  have hl : lv_has ls 3 [(0, .ref d)] := hl
  generalize hQ : MQ below _ _ _ _ _ _ = Q
  refine lv_aload_n hx hb d_Dr_joinToRow_0 rfl (lv_at hl 0 rfl) ?_
  refine va_get (D := D) (ci := 0) (v := .int (zI ((pp : Nat) : Int))) (C := R_Dr) (T := T_Dr) (N := 7) hx hb hts (fun w h => List.mem_cons_of_mem _ (inA_Dr w h)) hown hK hP 0 rfl rfl 6 (by decide) (hw k_Dr_f34) (fun _ h9 => h9) rfl d_Dr_joinToRow_1 ?_
  refine lv_iconst (v := zI 1) hx hb d_Dr_joinToRow_4 (by decide) ?_
  refine z_isub hx hb d_Dr_joinToRow_5 ?_
  refine lv_istore_n (lv' := [(1, .int (zI (((pp : Nat) : Int) - 1))), (0, .ref d)]) hx hb d_Dr_joinToRow_6 rfl hl (by decide) rfl (fun ls hl => ?_)
  refine lv_iload_n hx hb d_Dr_joinToRow_7 rfl (lv_at hl 0 rfl) ?_
  refine lv_iconst (v := zI 1) hx hb d_Dr_joinToRow_8 (by decide) ?_
  refine z_isub hx hb d_Dr_joinToRow_9 ?_
  refine lv_istore_n (lv' := [(2, .int (zI ((((pp : Nat) : Int) - 1) - 1))), (1, .int (zI (((pp : Nat) : Int) - 1))), (0, .ref d)]) hx hb d_Dr_joinToRow_10 rfl hl (by decide) rfl (fun ls hl => ?_)
  refine lv_aload_n hx hb d_Dr_joinToRow_11 rfl (lv_at hl 2 rfl) ?_
  refine lv_iload_n hx hb d_Dr_joinToRow_12 rfl (lv_at hl 0 rfl) ?_
  have hPc : va_P D vwCl [(d, .inr (0, [.ref dn, .ref df, .ref di, .ref dl, .ref dm, .int (zI ((nc : Nat) : Int)), .int (zI ((pp : Nat) : Int))])), (dm, .inl (c 1, 40, .inl (fun j => zB (mb j))))] s.heap := hP.sub (ws' := [(d, .inr (0, [.ref dn, .ref df, .ref di, .ref dl, .ref dm, .int (zI ((nc : Nat) : Int)), .int (zI ((pp : Nat) : Int))])), (dm, .inl (c 1, 40, .inl (fun j => zB (mb j))))]) [0, 1] rfl
  refine vp_callSi (va_runV (rm := rm_hasPart) (As := [.int (zI ((((pp : Nat) : Int) - 1) - 1))]) (rest := []) ⟨hx, hb, hml, hown, hts⟩ (c_hasPart l D c d dn df dfw di diw dl dlw dm nm fw iw lw mb nc pp (((pp : Nat) : Int) - 1 - 1) (by omega) (by omega)) (cwV 1 hts (gWV k_Dr_m48 k_i_Dr_hasPart k_v_Dr_hasPart k_n_Dr k_c_Dr_hasPart) rfl rfl rfl (by decide +kernel) ⟨Nat.le_of_ble_eq_true rfl, Nat.le_of_ble_eq_true rfl⟩) ⟨zblind, va_recv hK hPc (ci := 0) (q0 := 0) rfl rfl, fun U hU hW => ⟨rfl, by rw [hU]; exact hPc, hKN.moved hW⟩⟩ rfl rfl hl.1 rfl (lv_room (Nat.le_of_ble_eq_true rfl)) d_Dr_joinToRow_13 ⟨Nat.zero_le _, Nat.zero_le _⟩).run (fun r hr_1 => ?_)
  subst hr_1
  refine z_ifeq_B (tgt := 27) hx hb d_Dr_joinToRow_16 (by decide) (fun hc_16 => ?_) (fun hc_16 => (absurd hc_16 (by rw [decide_eq_false (by omega)]; decide)))
  refine lv_iconst (v := zI 0) hx hb d_Dr_joinToRow_27 (by decide) ?_
  subst hQ
  exact W.zret (ty := .boolean) (v := (zI 0)) hx hb hr (by decide) (fun t9 ht hW => ⟨_, rfl, (by decide), ht⟩) (fun q hq => absurd hq List.not_mem_nil) d_Dr_joinToRow_28

def rm_joinToChoice_no : Room := { frames := 1, cells := 0, slots := 0, locals := 21 }
set_option maxHeartbeats 4000000 in
set_option maxRecDepth 100000 in
/-- Draft.joinToChoice, refused -/
theorem c_joinToChoice_no (l : Launch) (D : va_G) (c : Nat → ClassId) (d : Nat) (dn : Nat) (df : Nat) (dfw : Nat) (di : Nat) (diw : Nat) (dl : Nat) (dlw : Nat) (dm : Nat) (nm : Nat → Nat) (fw : Nat → Int64) (iw : Nat → Int64) (lw : Nat → Int64) (mb : Nat → Bool) (nc : Nat) (pp : Nat) (hp : pp < 2) : Met l y_Dr_joinToChoice w_Dr_joinToChoice rm_joinToChoice_no (va_Pc [.ref d] (fun U => va_P D vwCl [(d, .inr (0, [.ref dn, .ref df, .ref di, .ref dl, .ref dm, .int (zI ((nc : Nat) : Int)), .int (zI ((pp : Nat) : Int))])), (dm, .inl (c 1, 40, .inl (fun j => zB (mb j))))] U.heap ∧ zK D c U)) (vp_Si (fun r => r = (zB false))) 0 0 (fun _ => False) := by
  refine Met.ofW (cc := b_Dr_joinToChoice) (maxL := 3) (ret := (some .boolean)) (by decide) rfl ?_
  intro p e s m args below meth c0 s₁ B hml hv
  obtain ⟨rfl, hP, hKN⟩ := hv
  have hK := hKN.1
  have hN := hKN.2
  have hx := B.exec
  have hb := B.bytes
  have hr := B.returns
  have hts := atoms_spec (ws := w_Dr_joinToChoice) B.pre
  have hw : ∀ {w : Cond}, w ∈ ALLW → w.before _ s = true := fun h => hts _ (List.mem_cons_of_mem _ h)
  have hown : s.vm.findClass R_Dr = some m.cls := findClass_of_methodNamed B.named
  have hlocks := B.notSynchronized
  have hl := lv_entry ([.ref d]) (n := 3) (Nat.le_of_ble_eq_true rfl)
  rw [lg_entry_eq]
  generalize (lg_sl ([.ref d]) ++ List.replicate (3 - (lg_sl ([.ref d])).length) Slot.unset).toArray = ls at hl ⊢
  have hl : lv_has ls 3 [(0, .ref d)] := hl
  generalize hQ : MQ below _ _ _ _ _ _ = Q
  refine lv_aload_n hx hb d_Dr_joinToChoice_0 rfl (lv_at hl 0 rfl) ?_
  refine va_get (D := D) (ci := 0) (v := .int (zI ((pp : Nat) : Int))) (C := R_Dr) (T := T_Dr) (N := 7) hx hb hts (fun w h => List.mem_cons_of_mem _ (inA_Dr w h)) hown hK hP 0 rfl rfl 6 (by decide) (hw k_Dr_f34) (fun _ h9 => h9) rfl d_Dr_joinToChoice_1 ?_
  refine lv_iconst (v := zI 1) hx hb d_Dr_joinToChoice_4 (by decide) ?_
  refine z_isub hx hb d_Dr_joinToChoice_5 ?_
  refine lv_istore_n (lv' := [(1, .int (zI (((pp : Nat) : Int) - 1))), (0, .ref d)]) hx hb d_Dr_joinToChoice_6 rfl hl (by decide) rfl (fun ls hl => ?_)
  refine lv_iload_n hx hb d_Dr_joinToChoice_7 rfl (lv_at hl 0 rfl) ?_
  refine lv_iconst (v := zI 1) hx hb d_Dr_joinToChoice_8 (by decide) ?_
  refine z_isub hx hb d_Dr_joinToChoice_9 ?_
  refine lv_istore_n (lv' := [(2, .int (zI ((((pp : Nat) : Int) - 1) - 1))), (1, .int (zI (((pp : Nat) : Int) - 1))), (0, .ref d)]) hx hb d_Dr_joinToChoice_10 rfl hl (by decide) rfl (fun ls hl => ?_)
  refine lv_aload_n hx hb d_Dr_joinToChoice_11 rfl (lv_at hl 2 rfl) ?_
  refine lv_iload_n hx hb d_Dr_joinToChoice_12 rfl (lv_at hl 0 rfl) ?_
  have hPc : va_P D vwCl [(d, .inr (0, [.ref dn, .ref df, .ref di, .ref dl, .ref dm, .int (zI ((nc : Nat) : Int)), .int (zI ((pp : Nat) : Int))])), (dm, .inl (c 1, 40, .inl (fun j => zB (mb j))))] s.heap := hP.sub (ws' := [(d, .inr (0, [.ref dn, .ref df, .ref di, .ref dl, .ref dm, .int (zI ((nc : Nat) : Int)), .int (zI ((pp : Nat) : Int))])), (dm, .inl (c 1, 40, .inl (fun j => zB (mb j))))]) [0, 1] rfl
  refine vp_callSi (va_runV (rm := rm_hasPart) (As := [.int (zI ((((pp : Nat) : Int) - 1) - 1))]) (rest := []) ⟨hx, hb, hml, hown, hts⟩ (c_hasPart l D c d dn df dfw di diw dl dlw dm nm fw iw lw mb nc pp (((pp : Nat) : Int) - 1 - 1) (by omega) (by omega)) (cwV 1 hts (gWV k_Dr_m48 k_i_Dr_hasPart k_v_Dr_hasPart k_n_Dr k_c_Dr_hasPart) rfl rfl rfl (by decide +kernel) ⟨Nat.le_of_ble_eq_true rfl, Nat.le_of_ble_eq_true rfl⟩) ⟨zblind, va_recv hK hPc (ci := 0) (q0 := 0) rfl rfl, fun U hU hW => ⟨rfl, by rw [hU]; exact hPc, hKN.moved hW⟩⟩ rfl rfl hl.1 rfl (lv_room (Nat.le_of_ble_eq_true rfl)) d_Dr_joinToChoice_13 ⟨Nat.zero_le _, Nat.zero_le _⟩).run (fun r hr_1 => ?_)
  subst hr_1
  refine z_ifeq_B (tgt := 27) hx hb d_Dr_joinToChoice_16 (by decide) (fun hc_16 => ?_) (fun hc_16 => (absurd hc_16 (by rw [decide_eq_false (by omega)]; decide)))
  refine lv_iconst (v := zI 0) hx hb d_Dr_joinToChoice_27 (by decide) ?_
  subst hQ
  exact W.zret (ty := .boolean) (v := (zI 0)) hx hb hr (by decide) (fun t9 ht hW => ⟨_, rfl, (by decide), ht⟩) (fun q hq => absurd hq List.not_mem_nil) d_Dr_joinToChoice_28

def rm_joinToRow : Room := { frames := 4, cells := 0, slots := 0, locals := 88 }
set_option maxHeartbeats 4000000 in
set_option maxRecDepth 100000 in
/-- Draft.joinToRow -/
theorem c_joinToRow (l : Launch) (D : va_G) (c : Nat → ClassId) (d : Nat) (dn : Nat) (df : Nat) (dfw : Nat) (di : Nat) (diw : Nat) (dl : Nat) (dlw : Nat) (dm : Nat) (nm : Nat → Nat) (fw : Nat → Int64) (iw : Nat → Int64) (lw : Nat → Int64) (mb : Nat → Bool) (nc : Nat) (q : Nat) (hp : q + 2 ≤ 40) (hc : nc ≤ 255) : Met l y_Dr_joinToRow w_Dr_joinToRow rm_joinToRow (va_Pc [.ref d] (fun U => (va_P D vwCl [(d, .inr (0, [.ref dn, .ref df, .ref di, .ref dl, .ref dm, .int (zI ((nc : Nat) : Int)), .int (zI ((q + 2 : Nat) : Int))])), (df, .inr (3, [.ref dfw])), (dfw, .inl (c 2, 4 * 255, .inr (.inl fw))), (di, .inr (3, [.ref diw])), (diw, .inl (c 2, 4 * 40, .inr (.inl iw))), (dl, .inr (3, [.ref dlw])), (dlw, .inl (c 2, 4 * 40, .inr (.inl lw))), (dm, .inl (c 1, 40, .inl (fun j => zB (mb j))))] U.heap ∧ va_D (fun _ => True) [(d, .inr (0, [.ref dn, .ref df, .ref di, .ref dl, .ref dm, .int (zI ((nc : Nat) : Int)), .int (zI ((q + 2 : Nat) : Int))])), (df, .inr (3, [.ref dfw])), (dfw, .inl (c 2, 4 * 255, .inr (.inl fw))), (di, .inr (3, [.ref diw])), (diw, .inl (c 2, 4 * 40, .inr (.inl iw))), (dl, .inr (3, [.ref dlw])), (dlw, .inl (c 2, 4 * 40, .inr (.inl lw))), (dm, .inl (c 1, 40, .inl (fun j => zB (mb j))))]) ∧ zK D c U)) (va_Qi (fun (r : Int32) (u : Unit) => r = (zB true) ∧ True) (fun (u : Unit) t9 => va_P D vwCl [(d, .inr (0, [.ref dn, .ref df, .ref di, .ref dl, .ref dm, .int (zI ((nc : Nat) : Int)), .int (zI ((q + 1 : Nat) : Int))])), (df, .inr (3, [.ref dfw])), (dfw, .inl (c 2, 4 * 255, .inr (.inl (lfw fw iw lw q (q + 1) nc)))), (di, .inr (3, [.ref diw])), (diw, .inl (c 2, 4 * 40, .inr (.inl (jrI iw mb q)))), (dl, .inr (3, [.ref dlw])), (dlw, .inl (c 2, 4 * 40, .inr (.inl (zor (jrL0 lw mb q) q (jrL0 lw mb q) (q + 1))))), (dm, .inl (c 1, 40, .inl (fun j => zB ((va_up mb q (mb q && mb (q + 1))) j))))] t9.heap) (zA [(d, .inr (0, [.ref dn, .ref df, .ref di, .ref dl, .ref dm, .int (zI ((nc : Nat) : Int)), .int (zI ((q + 2 : Nat) : Int))])), (df, .inr (3, [.ref dfw])), (dfw, .inl (c 2, 4 * 255, .inr (.inl fw))), (di, .inr (3, [.ref diw])), (diw, .inl (c 2, 4 * 40, .inr (.inl iw))), (dl, .inr (3, [.ref dlw])), (dlw, .inl (c 2, 4 * 40, .inr (.inl lw))), (dm, .inl (c 1, 40, .inl (fun j => zB (mb j))))])) 0 0 (zA [(d, .inr (0, [.ref dn, .ref df, .ref di, .ref dl, .ref dm, .int (zI ((nc : Nat) : Int)), .int (zI ((q + 2 : Nat) : Int))])), (df, .inr (3, [.ref dfw])), (dfw, .inl (c 2, 4 * 255, .inr (.inl fw))), (di, .inr (3, [.ref diw])), (diw, .inl (c 2, 4 * 40, .inr (.inl iw))), (dl, .inr (3, [.ref dlw])), (dlw, .inl (c 2, 4 * 40, .inr (.inl lw))), (dm, .inl (c 1, 40, .inl (fun j => zB (mb j))))]) := by
  refine Met.ofW (cc := b_Dr_joinToRow) (maxL := 3) (ret := (some .boolean)) (by decide) rfl ?_
  intro p e s m args below meth c0 s₁ B hml hv
  obtain ⟨rfl, ⟨hP, hD0⟩, hKN⟩ := hv
  have hK := hKN.1
  have hN := hKN.2
  have hx := B.exec
  have hb := B.bytes
  have hr := B.returns
  have hts := atoms_spec (ws := w_Dr_joinToRow) B.pre
  have hw : ∀ {w : Cond}, w ∈ ALLW → w.before _ s = true := fun h => hts _ (List.mem_cons_of_mem _ h)
  have hown : s.vm.findClass R_Dr = some m.cls := findClass_of_methodNamed B.named
  have hlocks := B.notSynchronized
  have hD : va_D (zA [(d, .inr (0, [.ref dn, .ref df, .ref di, .ref dl, .ref dm, .int (zI ((nc : Nat) : Int)), .int (zI ((q + 2 : Nat) : Int))])), (df, .inr (3, [.ref dfw])), (dfw, .inl (c 2, 4 * 255, .inr (.inl fw))), (di, .inr (3, [.ref diw])), (diw, .inl (c 2, 4 * 40, .inr (.inl iw))), (dl, .inr (3, [.ref dlw])), (dlw, .inl (c 2, 4 * 40, .inr (.inl lw))), (dm, .inl (c 1, 40, .inl (fun j => zB (mb j))))]) [(d, .inr (0, [.ref dn, .ref df, .ref di, .ref dl, .ref dm, .int (zI ((nc : Nat) : Int)), .int (zI ((q + 2 : Nat) : Int))])), (df, .inr (3, [.ref dfw])), (dfw, .inl (c 2, 4 * 255, .inr (.inl fw))), (di, .inr (3, [.ref diw])), (diw, .inl (c 2, 4 * 40, .inr (.inl iw))), (dl, .inr (3, [.ref dlw])), (dlw, .inl (c 2, 4 * 40, .inr (.inl lw))), (dm, .inl (c 1, 40, .inl (fun j => zB (mb j))))] := ⟨hD0.1, fun k q h => List.mem_map.mpr ⟨q, List.mem_of_getElem? h, rfl⟩⟩
  generalize hAe : zA [(d, .inr (0, [.ref dn, .ref df, .ref di, .ref dl, .ref dm, .int (zI ((nc : Nat) : Int)), .int (zI ((q + 2 : Nat) : Int))])), (df, .inr (3, [.ref dfw])), (dfw, .inl (c 2, 4 * 255, .inr (.inl fw))), (di, .inr (3, [.ref diw])), (diw, .inl (c 2, 4 * 40, .inr (.inl iw))), (dl, .inr (3, [.ref dlw])), (dlw, .inl (c 2, 4 * 40, .inr (.inl lw))), (dm, .inl (c 1, 40, .inl (fun j => zB (mb j))))] = A at hD ⊢
  have hS : va_S A s.heap s.heap [] := va_S.rf
  have hP : va_P D vwCl [(d, .inr (0, [.ref dn, .ref df, .ref di, .ref dl, .ref dm, .int (zI ((nc : Nat) : Int)), .int (zI ((q + 2 : Nat) : Int))])), (df, .inr (3, [.ref dfw])), (dfw, .inl (c 2, 4 * 255, .inr (.inl fw))), (di, .inr (3, [.ref diw])), (diw, .inl (c 2, 4 * 40, .inr (.inl iw))), (dl, .inr (3, [.ref dlw])), (dlw, .inl (c 2, 4 * 40, .inr (.inl lw))), (dm, .inl (c 1, 40, .inl (fun j => zB (mb j))))] s.heap := hP
  have hl := lv_entry ([.ref d]) (n := 3) (Nat.le_of_ble_eq_true rfl)
  rw [lg_entry_eq]
  generalize (lg_sl ([.ref d]) ++ List.replicate (3 - (lg_sl ([.ref d])).length) Slot.unset).toArray = ls at hl ⊢
  have hl : lv_has ls 3 [(0, .ref d)] := hl
  generalize hQ : MQ below _ _ _ _ _ _ = Q
  refine lv_aload_n hx hb d_Dr_joinToRow_0 rfl (lv_at hl 0 rfl) ?_
  refine va_get (D := D) (ci := 0) (v := .int (zI ((q + 2 : Nat) : Int))) (C := R_Dr) (T := T_Dr) (N := 7) hx hb hts (fun w h => List.mem_cons_of_mem _ (inA_Dr w h)) hown hK hP 0 rfl rfl 6 (by decide) (hw k_Dr_f34) (fun _ h9 => h9) rfl d_Dr_joinToRow_1 ?_
  refine lv_iconst (v := zI 1) hx hb d_Dr_joinToRow_4 (by decide) ?_
  refine z_isub hx hb d_Dr_joinToRow_5 ?_
  refine z_top (v2 := .int (zI ((q + 1 : Nat) : Int))) (congrArg Value.int (congrArg zI (by omega))) ?_
  refine lv_istore_n (lv' := [(1, .int (zI ((q + 1 : Nat) : Int))), (0, .ref d)]) hx hb d_Dr_joinToRow_6 rfl hl (by decide) rfl (fun ls hl => ?_)
  refine lv_iload_n hx hb d_Dr_joinToRow_7 rfl (lv_at hl 0 rfl) ?_
  refine lv_iconst (v := zI 1) hx hb d_Dr_joinToRow_8 (by decide) ?_
  refine z_isub hx hb d_Dr_joinToRow_9 ?_
  refine z_top (v2 := .int (zI ((q : Nat) : Int))) (congrArg Value.int (congrArg zI (by omega))) ?_
  refine lv_istore_n (lv' := [(2, .int (zI ((q : Nat) : Int))), (1, .int (zI ((q + 1 : Nat) : Int))), (0, .ref d)]) hx hb d_Dr_joinToRow_10 rfl hl (by decide) rfl (fun ls hl => ?_)
  refine lv_aload_n hx hb d_Dr_joinToRow_11 rfl (lv_at hl 2 rfl) ?_
  refine lv_iload_n hx hb d_Dr_joinToRow_12 rfl (lv_at hl 0 rfl) ?_
  have hPc : va_P D vwCl [(d, .inr (0, [.ref dn, .ref df, .ref di, .ref dl, .ref dm, .int (zI ((nc : Nat) : Int)), .int (zI (((q + 2) : Nat) : Int))])), (dm, .inl (c 1, 40, .inl (fun j => zB (mb j))))] s.heap := hP.sub (ws' := [(d, .inr (0, [.ref dn, .ref df, .ref di, .ref dl, .ref dm, .int (zI ((nc : Nat) : Int)), .int (zI (((q + 2) : Nat) : Int))])), (dm, .inl (c 1, 40, .inl (fun j => zB (mb j))))]) [0, 7] rfl
  refine vp_callSi (va_runV (rm := rm_hasPart) (As := [.int (zI ((q : Nat) : Int))]) (rest := []) ⟨hx, hb, hml, hown, hts⟩ (c_hasPart l D c d dn df dfw di diw dl dlw dm nm fw iw lw mb nc (q + 2) ((q : Nat) : Int) (by omega) (by omega)) (cwV 1 hts (gWV k_Dr_m48 k_i_Dr_hasPart k_v_Dr_hasPart k_n_Dr k_c_Dr_hasPart) rfl rfl rfl (by decide +kernel) ⟨Nat.le_of_ble_eq_true rfl, Nat.le_of_ble_eq_true rfl⟩) ⟨zblind, va_recv hK hPc (ci := 0) (q0 := 0) rfl rfl, fun U hU hW => ⟨rfl, by rw [hU]; exact hPc, hKN.moved hW⟩⟩ rfl rfl hl.1 rfl (lv_room (Nat.le_of_ble_eq_true rfl)) d_Dr_joinToRow_13 ⟨Nat.zero_le _, Nat.zero_le _⟩).run (fun r hr_1 => ?_)
  subst hr_1
  refine z_ifeq_B (tgt := 27) hx hb d_Dr_joinToRow_16 (by decide) (fun hc_16 => (absurd hc_16 (by rw [decide_eq_true (by omega)]; decide))) (fun hc_16 => ?_)
  refine lv_aload_n hx hb d_Dr_joinToRow_19 rfl (lv_at hl 2 rfl) ?_
  refine lv_iload_n hx hb d_Dr_joinToRow_20 rfl (lv_at hl 1 rfl) ?_
  have hPc : va_P D vwCl [(d, .inr (0, [.ref dn, .ref df, .ref di, .ref dl, .ref dm, .int (zI ((nc : Nat) : Int)), .int (zI (((q + 2) : Nat) : Int))])), (dm, .inl (c 1, 40, .inl (fun j => zB (mb j))))] s.heap := hP.sub (ws' := [(d, .inr (0, [.ref dn, .ref df, .ref di, .ref dl, .ref dm, .int (zI ((nc : Nat) : Int)), .int (zI (((q + 2) : Nat) : Int))])), (dm, .inl (c 1, 40, .inl (fun j => zB (mb j))))]) [0, 7] rfl
  refine vp_callSi (va_runV (rm := rm_hasPart) (As := [.int (zI ((q + 1 : Nat) : Int))]) (rest := []) ⟨hx, hb, hml, hown, hts⟩ (c_hasPart l D c d dn df dfw di diw dl dlw dm nm fw iw lw mb nc (q + 2) ((q + 1 : Nat) : Int) (by omega) (by omega)) (cwV 1 hts (gWV k_Dr_m48 k_i_Dr_hasPart k_v_Dr_hasPart k_n_Dr k_c_Dr_hasPart) rfl rfl rfl (by decide +kernel) ⟨Nat.le_of_ble_eq_true rfl, Nat.le_of_ble_eq_true rfl⟩) ⟨zblind, va_recv hK hPc (ci := 0) (q0 := 0) rfl rfl, fun U hU hW => ⟨rfl, by rw [hU]; exact hPc, hKN.moved hW⟩⟩ rfl rfl hl.1 rfl (lv_room (Nat.le_of_ble_eq_true rfl)) d_Dr_joinToRow_21 ⟨Nat.zero_le _, Nat.zero_le _⟩).run (fun r hr_2 => ?_)
  subst hr_2
  refine z_ifne_B (tgt := 29) hx hb d_Dr_joinToRow_24 (by decide) (fun hc_24 => ?_) (fun hc_24 => (absurd hc_24 (by rw [decide_eq_true (by omega)]; decide)))
  refine lv_aload_n hx hb d_Dr_joinToRow_29 rfl (lv_at hl 2 rfl) ?_
  refine lv_iload_n hx hb d_Dr_joinToRow_30 rfl (lv_at hl 0 rfl) ?_
  refine lv_iload_n hx hb d_Dr_joinToRow_31 rfl (lv_at hl 1 rfl) ?_
  have hPc : va_P D vwCl [(d, .inr (0, [.ref dn, .ref df, .ref di, .ref dl, .ref dm, .int (zI ((nc : Nat) : Int)), .int (zI (((q + 2) : Nat) : Int))])), (df, .inr (3, [.ref dfw])), (dfw, .inl (c 2, 4 * 255, .inr (.inl fw))), (di, .inr (3, [.ref diw])), (diw, .inl (c 2, 4 * 40, .inr (.inl iw))), (dl, .inr (3, [.ref dlw])), (dlw, .inl (c 2, 4 * 40, .inr (.inl lw)))] s.heap := hP.sub (ws' := [(d, .inr (0, [.ref dn, .ref df, .ref di, .ref dl, .ref dm, .int (zI ((nc : Nat) : Int)), .int (zI (((q + 2) : Nat) : Int))])), (df, .inr (3, [.ref dfw])), (dfw, .inl (c 2, 4 * 255, .inr (.inl fw))), (di, .inr (3, [.ref diw])), (diw, .inl (c 2, 4 * 40, .inr (.inl iw))), (dl, .inr (3, [.ref dlw])), (dlw, .inl (c 2, 4 * 40, .inr (.inl lw)))]) [0, 1, 2, 3, 4, 5, 6] rfl
  have hDc : va_D A [(d, .inr (0, [.ref dn, .ref df, .ref di, .ref dl, .ref dm, .int (zI ((nc : Nat) : Int)), .int (zI (((q + 2) : Nat) : Int))])), (df, .inr (3, [.ref dfw])), (dfw, .inl (c 2, 4 * 255, .inr (.inl fw))), (di, .inr (3, [.ref diw])), (diw, .inl (c 2, 4 * 40, .inr (.inl iw))), (dl, .inr (3, [.ref dlw])), (dlw, .inl (c 2, 4 * 40, .inr (.inl lw)))] := hD.sub (ws' := [(d, .inr (0, [.ref dn, .ref df, .ref di, .ref dl, .ref dm, .int (zI ((nc : Nat) : Int)), .int (zI (((q + 2) : Nat) : Int))])), (df, .inr (3, [.ref dfw])), (dfw, .inl (c 2, 4 * 255, .inr (.inl fw))), (di, .inr (3, [.ref diw])), (diw, .inl (c 2, 4 * 40, .inr (.inl iw))), (dl, .inr (3, [.ref dlw])), (dlw, .inl (c 2, 4 * 40, .inr (.inl lw)))]) [0, 1, 2, 3, 4, 5, 6] (by decide) rfl
  have hDt : va_D (fun _ => True) [(d, .inr (0, [.ref dn, .ref df, .ref di, .ref dl, .ref dm, .int (zI ((nc : Nat) : Int)), .int (zI (((q + 2) : Nat) : Int))])), (df, .inr (3, [.ref dfw])), (dfw, .inl (c 2, 4 * 255, .inr (.inl fw))), (di, .inr (3, [.ref diw])), (diw, .inl (c 2, 4 * 40, .inr (.inl iw))), (dl, .inr (3, [.ref dlw])), (dlw, .inl (c 2, 4 * 40, .inr (.inl lw)))] := hDc.weaken (fun _ _ _ _ => trivial)
  refine z_callv (S := Unit) (w1 := fun u => [(d, .inr (0, [.ref dn, .ref df, .ref di, .ref dl, .ref dm, .int (zI ((nc : Nat) : Int)), .int (zI (((q + 2) : Nat) : Int))])), (df, .inr (3, [.ref dfw])), (dfw, .inl (c 2, 4 * 255, .inr (.inl (lfw fw iw lw q (q + 1) nc)))), (di, .inr (3, [.ref diw])), (diw, .inl (c 2, 4 * 40, .inr (.inl iw))), (dl, .inr (3, [.ref dlw])), (dlw, .inl (c 2, 4 * 40, .inr (.inl lw)))]) (post := fun u => True) (wc := [(d, .inr (0, [.ref dn, .ref df, .ref di, .ref dl, .ref dm, .int (zI ((nc : Nat) : Int)), .int (zI (((q + 2) : Nat) : Int))])), (df, .inr (3, [.ref dfw])), (dfw, .inl (c 2, 4 * 255, .inr (.inl fw))), (di, .inr (3, [.ref diw])), (diw, .inl (c 2, 4 * 40, .inr (.inl iw))), (dl, .inr (3, [.ref dlw])), (dlw, .inl (c 2, 4 * 40, .inr (.inl lw)))]) [0, 1, 2, 3, 4, 5, 6] rfl (fun _ => rfl) hP hD hS (va_runV (rm := rm_letFollow) (As := [.int (zI ((q : Nat) : Int)), .int (zI ((q + 1 : Nat) : Int))]) (rest := []) ⟨hx, hb, hml, hown, hts⟩ (c_letFollow l D c d dn df dfw di diw dl dlw dm nm fw iw lw mb nc (q + 2) q (q + 1) (by omega) (by omega) (by omega)) (cwV 2 hts (gWV k_Dr_m52 k_i_Dr_letFollow k_v_Dr_letFollow k_n_Dr k_c_Dr_letFollow) rfl rfl rfl (by decide +kernel) ⟨Nat.le_of_ble_eq_true rfl, Nat.le_of_ble_eq_true rfl⟩) ⟨zblindW, va_recv hK hPc (ci := 0) (q0 := 0) rfl rfl, fun U hU hW => ⟨rfl, ⟨by rw [hU]; exact hPc, hDt⟩, hKN.moved hW⟩⟩ rfl rfl hl.1 rfl (lv_room (Nat.le_of_ble_eq_true rfl)) d_Dr_joinToRow_32 ⟨Nat.zero_le _, Nat.zero_le _⟩) (fun u H locs hp_3 hP hD hS => ?_)
  have hP : va_P D vwCl [(d, .inr (0, [.ref dn, .ref df, .ref di, .ref dl, .ref dm, .int (zI ((nc : Nat) : Int)), .int (zI (((q + 2) : Nat) : Int))])), (df, .inr (3, [.ref dfw])), (dfw, .inl (c 2, 4 * 255, .inr (.inl (lfw fw iw lw q (q + 1) nc)))), (di, .inr (3, [.ref diw])), (diw, .inl (c 2, 4 * 40, .inr (.inl iw))), (dl, .inr (3, [.ref dlw])), (dlw, .inl (c 2, 4 * 40, .inr (.inl lw))), (dm, .inl (c 1, 40, .inl (fun j => zB (mb j))))] H := hP
  have hD : va_D A [(d, .inr (0, [.ref dn, .ref df, .ref di, .ref dl, .ref dm, .int (zI ((nc : Nat) : Int)), .int (zI (((q + 2) : Nat) : Int))])), (df, .inr (3, [.ref dfw])), (dfw, .inl (c 2, 4 * 255, .inr (.inl (lfw fw iw lw q (q + 1) nc)))), (di, .inr (3, [.ref diw])), (diw, .inl (c 2, 4 * 40, .inr (.inl iw))), (dl, .inr (3, [.ref dlw])), (dlw, .inl (c 2, 4 * 40, .inr (.inl lw))), (dm, .inl (c 1, 40, .inl (fun j => zB (mb j))))] := hD
  refine lv_aload_n hx hb d_Dr_joinToRow_35 rfl (lv_at hl 2 rfl) ?_
  refine va_get (D := D) (ci := 0) (v := .ref dm) (C := R_Dr) (T := T_Dr) (N := 7) hx hb hts (fun w h => List.mem_cons_of_mem _ (inA_Dr w h)) hown hK hP 0 rfl rfl 4 (by decide) (hw k_Dr_f30) (fun _ h9 => h9) rfl d_Dr_joinToRow_36 ?_
  refine lv_iload_n hx hb d_Dr_joinToRow_39 rfl (lv_at hl 0 rfl) ?_
  refine z_zald hx hb hK hP 7 1 rfl rfl (q) (by omega) (by omega) (by omega) d_Dr_joinToRow_40 ?_
  refine z_ifeq_B (tgt := 57) hx hb d_Dr_joinToRow_41 (by decide) (fun hc_41 => ?_) (fun hc_41 => ?_)
  · refine lv_aload_n hx hb d_Dr_joinToRow_57 rfl (lv_at hl 2 rfl) ?_
    refine va_get (D := D) (ci := 0) (v := .ref dm) (C := R_Dr) (T := T_Dr) (N := 7) hx hb hts (fun w h => List.mem_cons_of_mem _ (inA_Dr w h)) hown hK hP 0 rfl rfl 4 (by decide) (hw k_Dr_f30) (fun _ h9 => h9) rfl d_Dr_joinToRow_58 ?_
    refine lv_iload_n hx hb d_Dr_joinToRow_61 rfl (lv_at hl 1 rfl) ?_
    refine z_zald hx hb hK hP 7 1 rfl rfl (q + 1) (by omega) (by omega) (by omega) d_Dr_joinToRow_62 ?_
    refine z_ifne_B (tgt := 74) hx hb d_Dr_joinToRow_63 (by decide) (fun hc_63 => ?_) (fun hc_63 => ?_)
    · refine lv_aload_n hx hb d_Dr_joinToRow_74 rfl (lv_at hl 2 rfl) ?_
      refine va_get (D := D) (ci := 0) (v := .ref dl) (C := R_Dr) (T := T_Dr) (N := 7) hx hb hts (fun w h => List.mem_cons_of_mem _ (inA_Dr w h)) hown hK hP 0 rfl rfl 3 (by decide) (hw k_Dr_f27) (fun _ h9 => h9) rfl d_Dr_joinToRow_75 ?_
      refine lv_iload_n hx hb d_Dr_joinToRow_78 rfl (lv_at hl 0 rfl) ?_
      refine lv_aload_n hx hb d_Dr_joinToRow_79 rfl (lv_at hl 2 rfl) ?_
      refine va_get (D := D) (ci := 0) (v := .ref dl) (C := R_Dr) (T := T_Dr) (N := 7) hx hb hts (fun w h => List.mem_cons_of_mem _ (inA_Dr w h)) hown hK hP 0 rfl rfl 3 (by decide) (hw k_Dr_f27) (fun _ h9 => h9) rfl d_Dr_joinToRow_80 ?_
      refine lv_iload_n hx hb d_Dr_joinToRow_83 rfl (lv_at hl 1 rfl) ?_
      have hPc : va_P D vwCl [(dl, .inr (3, [.ref dlw])), (dlw, .inl (c 2, 4 * 40, .inr (.inl lw)))] H := hP.sub (ws' := [(dl, .inr (3, [.ref dlw])), (dlw, .inl (c 2, 4 * 40, .inr (.inl lw)))]) [5, 6] rfl
      have hDc : va_D A [(dl, .inr (3, [.ref dlw])), (dlw, .inl (c 2, 4 * 40, .inr (.inl lw)))] := hD.sub (ws' := [(dl, .inr (3, [.ref dlw])), (dlw, .inl (c 2, 4 * 40, .inr (.inl lw)))]) [5, 6] (by decide) rfl
      have hDt : va_D (fun _ => True) [(dl, .inr (3, [.ref dlw])), (dlw, .inl (c 2, 4 * 40, .inr (.inl lw)))] := hDc.weaken (fun _ _ _ _ => trivial)
      refine z_callv (S := Unit) (w1 := fun u => [(dl, .inr (3, [.ref dlw])), (dlw, .inl (c 2, 4 * 40, .inr (.inl (zor lw q lw (q + 1)))))]) (post := fun u => True) (wc := [(dl, .inr (3, [.ref dlw])), (dlw, .inl (c 2, 4 * 40, .inr (.inl lw)))]) [5, 6] rfl (fun _ => rfl) hP hD hS (va_runV (rm := rm_addSelf) (As := [.int (zI ((q : Nat) : Int)), .ref dl, .int (zI ((q + 1 : Nat) : Int))]) (rest := []) ⟨hx, hb, hml, hown, hts⟩ (c_addSelf l D c dl dlw 40 lw q (q + 1) (by omega) (by omega) (by omega)) (cwV 3 hts (gWV k_Dr_m55 k_i_Se_addAll k_v_Se_addAll k_n_Se k_c_Se_addAll) rfl rfl rfl (by decide +kernel) ⟨Nat.le_of_ble_eq_true rfl, Nat.le_of_ble_eq_true rfl⟩) ⟨zblindW, va_recv hK hPc (ci := 3) (q0 := 0) rfl rfl, fun U hU hW => ⟨rfl, ⟨by rw [hU]; exact hPc, hDt⟩, hKN.moved hW⟩⟩ rfl rfl hl.1 rfl (lv_room (Nat.le_of_ble_eq_true rfl)) d_Dr_joinToRow_84 ⟨Nat.zero_le _, Nat.zero_le _⟩) (fun u H locs hp_4 hP hD hS => ?_)
      have hP : va_P D vwCl [(d, .inr (0, [.ref dn, .ref df, .ref di, .ref dl, .ref dm, .int (zI ((nc : Nat) : Int)), .int (zI (((q + 2) : Nat) : Int))])), (df, .inr (3, [.ref dfw])), (dfw, .inl (c 2, 4 * 255, .inr (.inl (lfw fw iw lw q (q + 1) nc)))), (di, .inr (3, [.ref diw])), (diw, .inl (c 2, 4 * 40, .inr (.inl iw))), (dl, .inr (3, [.ref dlw])), (dlw, .inl (c 2, 4 * 40, .inr (.inl (zor lw q lw (q + 1))))), (dm, .inl (c 1, 40, .inl (fun j => zB (mb j))))] H := hP
      have hD : va_D A [(d, .inr (0, [.ref dn, .ref df, .ref di, .ref dl, .ref dm, .int (zI ((nc : Nat) : Int)), .int (zI (((q + 2) : Nat) : Int))])), (df, .inr (3, [.ref dfw])), (dfw, .inl (c 2, 4 * 255, .inr (.inl (lfw fw iw lw q (q + 1) nc)))), (di, .inr (3, [.ref diw])), (diw, .inl (c 2, 4 * 40, .inr (.inl iw))), (dl, .inr (3, [.ref dlw])), (dlw, .inl (c 2, 4 * 40, .inr (.inl (zor lw q lw (q + 1))))), (dm, .inl (c 1, 40, .inl (fun j => zB (mb j))))] := hD
      refine lv_aload_n hx hb d_Dr_joinToRow_87 rfl (lv_at hl 2 rfl) ?_
      refine va_get (D := D) (ci := 0) (v := .ref dm) (C := R_Dr) (T := T_Dr) (N := 7) hx hb hts (fun w h => List.mem_cons_of_mem _ (inA_Dr w h)) hown hK hP 0 rfl rfl 4 (by decide) (hw k_Dr_f30) (fun _ h9 => h9) rfl d_Dr_joinToRow_88 ?_
      refine lv_iload_n hx hb d_Dr_joinToRow_91 rfl (lv_at hl 0 rfl) ?_
      refine lv_aload_n hx hb d_Dr_joinToRow_92 rfl (lv_at hl 2 rfl) ?_
      refine va_get (D := D) (ci := 0) (v := .ref dm) (C := R_Dr) (T := T_Dr) (N := 7) hx hb hts (fun w h => List.mem_cons_of_mem _ (inA_Dr w h)) hown hK hP 0 rfl rfl 4 (by decide) (hw k_Dr_f30) (fun _ h9 => h9) rfl d_Dr_joinToRow_93 ?_
      refine lv_iload_n hx hb d_Dr_joinToRow_96 rfl (lv_at hl 0 rfl) ?_
      refine z_zald hx hb hK hP 7 1 rfl rfl (q) (by omega) (by omega) (by omega) d_Dr_joinToRow_97 ?_
      refine z_ifeq_B (tgt := 114) hx hb d_Dr_joinToRow_98 (by decide) (fun hc_98 => ?_) (fun hc_98 => ?_)
      · refine lv_iconst (v := zI 0) hx hb d_Dr_joinToRow_114 (by decide) ?_
        refine z_top (v2 := .int (zB false)) (congrArg Value.int (by decide)) ?_
        refine z_zast hx hb hK hP hD hS 7 1 rfl rfl (q) (by omega) (by omega) (by omega) d_Dr_joinToRow_115 (fun H locs hP hD hS => ?_)
        have hP : va_P D vwCl [(d, .inr (0, [.ref dn, .ref df, .ref di, .ref dl, .ref dm, .int (zI ((nc : Nat) : Int)), .int (zI (((q + 2) : Nat) : Int))])), (df, .inr (3, [.ref dfw])), (dfw, .inl (c 2, 4 * 255, .inr (.inl (lfw fw iw lw q (q + 1) nc)))), (di, .inr (3, [.ref diw])), (diw, .inl (c 2, 4 * 40, .inr (.inl iw))), (dl, .inr (3, [.ref dlw])), (dlw, .inl (c 2, 4 * 40, .inr (.inl (zor lw q lw (q + 1))))), (dm, .inl (c 1, 40, .inl (fun j => zB ((va_up mb q false) j))))] H := hP
        have hD : va_D A [(d, .inr (0, [.ref dn, .ref df, .ref di, .ref dl, .ref dm, .int (zI ((nc : Nat) : Int)), .int (zI (((q + 2) : Nat) : Int))])), (df, .inr (3, [.ref dfw])), (dfw, .inl (c 2, 4 * 255, .inr (.inl (lfw fw iw lw q (q + 1) nc)))), (di, .inr (3, [.ref diw])), (diw, .inl (c 2, 4 * 40, .inr (.inl iw))), (dl, .inr (3, [.ref dlw])), (dlw, .inl (c 2, 4 * 40, .inr (.inl (zor lw q lw (q + 1))))), (dm, .inl (c 1, 40, .inl (fun j => zB ((va_up mb q false) j))))] := hD
        refine lv_aload_n hx hb d_Dr_joinToRow_116 rfl (lv_at hl 2 rfl) ?_
        refine lv_iload_n hx hb d_Dr_joinToRow_117 rfl (lv_at hl 1 rfl) ?_
        refine va_put (D := D) (ci := 0) (v := .int (zI ((q + 1 : Nat) : Int))) (ty := .int) (C := R_Dr) (T := T_Dr) (N := 7) hx hb hts (fun w h => List.mem_cons_of_mem _ (inA_Dr w h)) ty_Dr tyok_Dr nm_Dr hown hK hP hD hS 0 rfl rfl 6 (by decide) (hw k_Dr_f34) (fun _ h9 => h9) rfl (by decide +kernel) rfl rfl (Nat.le_of_ble_eq_true rfl) d_Dr_joinToRow_118 (fun H locs hP hD hS => ?_)
        have hP : va_P D vwCl [(d, .inr (0, [.ref dn, .ref df, .ref di, .ref dl, .ref dm, .int (zI ((nc : Nat) : Int)), .int (zI ((q + 1 : Nat) : Int))])), (df, .inr (3, [.ref dfw])), (dfw, .inl (c 2, 4 * 255, .inr (.inl (lfw fw iw lw q (q + 1) nc)))), (di, .inr (3, [.ref diw])), (diw, .inl (c 2, 4 * 40, .inr (.inl iw))), (dl, .inr (3, [.ref dlw])), (dlw, .inl (c 2, 4 * 40, .inr (.inl (zor lw q lw (q + 1))))), (dm, .inl (c 1, 40, .inl (fun j => zB ((va_up mb q false) j))))] H := hP
        have hD : va_D A [(d, .inr (0, [.ref dn, .ref df, .ref di, .ref dl, .ref dm, .int (zI ((nc : Nat) : Int)), .int (zI ((q + 1 : Nat) : Int))])), (df, .inr (3, [.ref dfw])), (dfw, .inl (c 2, 4 * 255, .inr (.inl (lfw fw iw lw q (q + 1) nc)))), (di, .inr (3, [.ref diw])), (diw, .inl (c 2, 4 * 40, .inr (.inl iw))), (dl, .inr (3, [.ref dlw])), (dlw, .inl (c 2, 4 * 40, .inr (.inl (zor lw q lw (q + 1))))), (dm, .inl (c 1, 40, .inl (fun j => zB ((va_up mb q false) j))))] := hD
        refine lv_iconst (v := zI 1) hx hb d_Dr_joinToRow_121 (by decide) ?_
        subst hQ
        exact W.zret (ty := .boolean) (v := (zI 1)) hx hb hr (by decide) (fun t9 ht hW => ⟨⟨_, (), rfl, ⟨(by decide), trivial⟩, by show va_P _ _ _ t9.heap; rw [ht]; rw [jrI_F hc_41, jrL0_T hc_63, show (mb q && mb (q + 1)) = false by first | (simp [*]; done) | (exfalso; rw [hc_41] at hc_98; cases hc_98; done) | (exfalso; rw [hc_63] at hc_107; cases hc_107; done)]; exact hP⟩, hS.F ht⟩) hS.2.2 d_Dr_joinToRow_122
      · refine lv_aload_n hx hb d_Dr_joinToRow_101 rfl (lv_at hl 2 rfl) ?_
        refine va_get (D := D) (ci := 0) (v := .ref dm) (C := R_Dr) (T := T_Dr) (N := 7) hx hb hts (fun w h => List.mem_cons_of_mem _ (inA_Dr w h)) hown hK hP 0 rfl rfl 4 (by decide) (hw k_Dr_f30) (fun _ h9 => h9) rfl d_Dr_joinToRow_102 ?_
        refine lv_iload_n hx hb d_Dr_joinToRow_105 rfl (lv_at hl 1 rfl) ?_
        refine z_zald hx hb hK hP 7 1 rfl rfl (q + 1) (by omega) (by omega) (by omega) d_Dr_joinToRow_106 ?_
        refine z_ifeq_B (tgt := 114) hx hb d_Dr_joinToRow_107 (by decide) (fun hc_107 => ?_) (fun hc_107 => ?_)
        · refine lv_iconst (v := zI 0) hx hb d_Dr_joinToRow_114 (by decide) ?_
          refine z_top (v2 := .int (zB false)) (congrArg Value.int (by decide)) ?_
          refine z_zast hx hb hK hP hD hS 7 1 rfl rfl (q) (by omega) (by omega) (by omega) d_Dr_joinToRow_115 (fun H locs hP hD hS => ?_)
          have hP : va_P D vwCl [(d, .inr (0, [.ref dn, .ref df, .ref di, .ref dl, .ref dm, .int (zI ((nc : Nat) : Int)), .int (zI (((q + 2) : Nat) : Int))])), (df, .inr (3, [.ref dfw])), (dfw, .inl (c 2, 4 * 255, .inr (.inl (lfw fw iw lw q (q + 1) nc)))), (di, .inr (3, [.ref diw])), (diw, .inl (c 2, 4 * 40, .inr (.inl iw))), (dl, .inr (3, [.ref dlw])), (dlw, .inl (c 2, 4 * 40, .inr (.inl (zor lw q lw (q + 1))))), (dm, .inl (c 1, 40, .inl (fun j => zB ((va_up mb q false) j))))] H := hP
          have hD : va_D A [(d, .inr (0, [.ref dn, .ref df, .ref di, .ref dl, .ref dm, .int (zI ((nc : Nat) : Int)), .int (zI (((q + 2) : Nat) : Int))])), (df, .inr (3, [.ref dfw])), (dfw, .inl (c 2, 4 * 255, .inr (.inl (lfw fw iw lw q (q + 1) nc)))), (di, .inr (3, [.ref diw])), (diw, .inl (c 2, 4 * 40, .inr (.inl iw))), (dl, .inr (3, [.ref dlw])), (dlw, .inl (c 2, 4 * 40, .inr (.inl (zor lw q lw (q + 1))))), (dm, .inl (c 1, 40, .inl (fun j => zB ((va_up mb q false) j))))] := hD
          refine lv_aload_n hx hb d_Dr_joinToRow_116 rfl (lv_at hl 2 rfl) ?_
          refine lv_iload_n hx hb d_Dr_joinToRow_117 rfl (lv_at hl 1 rfl) ?_
          refine va_put (D := D) (ci := 0) (v := .int (zI ((q + 1 : Nat) : Int))) (ty := .int) (C := R_Dr) (T := T_Dr) (N := 7) hx hb hts (fun w h => List.mem_cons_of_mem _ (inA_Dr w h)) ty_Dr tyok_Dr nm_Dr hown hK hP hD hS 0 rfl rfl 6 (by decide) (hw k_Dr_f34) (fun _ h9 => h9) rfl (by decide +kernel) rfl rfl (Nat.le_of_ble_eq_true rfl) d_Dr_joinToRow_118 (fun H locs hP hD hS => ?_)
          have hP : va_P D vwCl [(d, .inr (0, [.ref dn, .ref df, .ref di, .ref dl, .ref dm, .int (zI ((nc : Nat) : Int)), .int (zI ((q + 1 : Nat) : Int))])), (df, .inr (3, [.ref dfw])), (dfw, .inl (c 2, 4 * 255, .inr (.inl (lfw fw iw lw q (q + 1) nc)))), (di, .inr (3, [.ref diw])), (diw, .inl (c 2, 4 * 40, .inr (.inl iw))), (dl, .inr (3, [.ref dlw])), (dlw, .inl (c 2, 4 * 40, .inr (.inl (zor lw q lw (q + 1))))), (dm, .inl (c 1, 40, .inl (fun j => zB ((va_up mb q false) j))))] H := hP
          have hD : va_D A [(d, .inr (0, [.ref dn, .ref df, .ref di, .ref dl, .ref dm, .int (zI ((nc : Nat) : Int)), .int (zI ((q + 1 : Nat) : Int))])), (df, .inr (3, [.ref dfw])), (dfw, .inl (c 2, 4 * 255, .inr (.inl (lfw fw iw lw q (q + 1) nc)))), (di, .inr (3, [.ref diw])), (diw, .inl (c 2, 4 * 40, .inr (.inl iw))), (dl, .inr (3, [.ref dlw])), (dlw, .inl (c 2, 4 * 40, .inr (.inl (zor lw q lw (q + 1))))), (dm, .inl (c 1, 40, .inl (fun j => zB ((va_up mb q false) j))))] := hD
          refine lv_iconst (v := zI 1) hx hb d_Dr_joinToRow_121 (by decide) ?_
          subst hQ
          exact W.zret (ty := .boolean) (v := (zI 1)) hx hb hr (by decide) (fun t9 ht hW => ⟨⟨_, (), rfl, ⟨(by decide), trivial⟩, by show va_P _ _ _ t9.heap; rw [ht]; rw [jrI_F hc_41, jrL0_T hc_63, show (mb q && mb (q + 1)) = false by first | (simp [*]; done) | (exfalso; rw [hc_41] at hc_98; cases hc_98; done) | (exfalso; rw [hc_63] at hc_107; cases hc_107; done)]; exact hP⟩, hS.F ht⟩) hS.2.2 d_Dr_joinToRow_122
        · refine lv_iconst (v := zI 1) hx hb d_Dr_joinToRow_110 (by decide) ?_
          refine lv_goto (tgt := 115) hx hb d_Dr_joinToRow_111 (by decide) ?_
          refine z_top (v2 := .int (zB true)) (congrArg Value.int (by decide)) ?_
          refine z_zast hx hb hK hP hD hS 7 1 rfl rfl (q) (by omega) (by omega) (by omega) d_Dr_joinToRow_115 (fun H locs hP hD hS => ?_)
          have hP : va_P D vwCl [(d, .inr (0, [.ref dn, .ref df, .ref di, .ref dl, .ref dm, .int (zI ((nc : Nat) : Int)), .int (zI (((q + 2) : Nat) : Int))])), (df, .inr (3, [.ref dfw])), (dfw, .inl (c 2, 4 * 255, .inr (.inl (lfw fw iw lw q (q + 1) nc)))), (di, .inr (3, [.ref diw])), (diw, .inl (c 2, 4 * 40, .inr (.inl iw))), (dl, .inr (3, [.ref dlw])), (dlw, .inl (c 2, 4 * 40, .inr (.inl (zor lw q lw (q + 1))))), (dm, .inl (c 1, 40, .inl (fun j => zB ((va_up mb q true) j))))] H := hP
          have hD : va_D A [(d, .inr (0, [.ref dn, .ref df, .ref di, .ref dl, .ref dm, .int (zI ((nc : Nat) : Int)), .int (zI (((q + 2) : Nat) : Int))])), (df, .inr (3, [.ref dfw])), (dfw, .inl (c 2, 4 * 255, .inr (.inl (lfw fw iw lw q (q + 1) nc)))), (di, .inr (3, [.ref diw])), (diw, .inl (c 2, 4 * 40, .inr (.inl iw))), (dl, .inr (3, [.ref dlw])), (dlw, .inl (c 2, 4 * 40, .inr (.inl (zor lw q lw (q + 1))))), (dm, .inl (c 1, 40, .inl (fun j => zB ((va_up mb q true) j))))] := hD
          refine lv_aload_n hx hb d_Dr_joinToRow_116 rfl (lv_at hl 2 rfl) ?_
          refine lv_iload_n hx hb d_Dr_joinToRow_117 rfl (lv_at hl 1 rfl) ?_
          refine va_put (D := D) (ci := 0) (v := .int (zI ((q + 1 : Nat) : Int))) (ty := .int) (C := R_Dr) (T := T_Dr) (N := 7) hx hb hts (fun w h => List.mem_cons_of_mem _ (inA_Dr w h)) ty_Dr tyok_Dr nm_Dr hown hK hP hD hS 0 rfl rfl 6 (by decide) (hw k_Dr_f34) (fun _ h9 => h9) rfl (by decide +kernel) rfl rfl (Nat.le_of_ble_eq_true rfl) d_Dr_joinToRow_118 (fun H locs hP hD hS => ?_)
          have hP : va_P D vwCl [(d, .inr (0, [.ref dn, .ref df, .ref di, .ref dl, .ref dm, .int (zI ((nc : Nat) : Int)), .int (zI ((q + 1 : Nat) : Int))])), (df, .inr (3, [.ref dfw])), (dfw, .inl (c 2, 4 * 255, .inr (.inl (lfw fw iw lw q (q + 1) nc)))), (di, .inr (3, [.ref diw])), (diw, .inl (c 2, 4 * 40, .inr (.inl iw))), (dl, .inr (3, [.ref dlw])), (dlw, .inl (c 2, 4 * 40, .inr (.inl (zor lw q lw (q + 1))))), (dm, .inl (c 1, 40, .inl (fun j => zB ((va_up mb q true) j))))] H := hP
          have hD : va_D A [(d, .inr (0, [.ref dn, .ref df, .ref di, .ref dl, .ref dm, .int (zI ((nc : Nat) : Int)), .int (zI ((q + 1 : Nat) : Int))])), (df, .inr (3, [.ref dfw])), (dfw, .inl (c 2, 4 * 255, .inr (.inl (lfw fw iw lw q (q + 1) nc)))), (di, .inr (3, [.ref diw])), (diw, .inl (c 2, 4 * 40, .inr (.inl iw))), (dl, .inr (3, [.ref dlw])), (dlw, .inl (c 2, 4 * 40, .inr (.inl (zor lw q lw (q + 1))))), (dm, .inl (c 1, 40, .inl (fun j => zB ((va_up mb q true) j))))] := hD
          refine lv_iconst (v := zI 1) hx hb d_Dr_joinToRow_121 (by decide) ?_
          subst hQ
          exact W.zret (ty := .boolean) (v := (zI 1)) hx hb hr (by decide) (fun t9 ht hW => ⟨⟨_, (), rfl, ⟨(by decide), trivial⟩, by show va_P _ _ _ t9.heap; rw [ht]; rw [jrI_F hc_41, jrL0_T hc_63, show (mb q && mb (q + 1)) = true by first | (simp [*]; done) | (exfalso; rw [hc_41] at hc_98; cases hc_98; done) | (exfalso; rw [hc_63] at hc_107; cases hc_107; done)]; exact hP⟩, hS.F ht⟩) hS.2.2 d_Dr_joinToRow_122
    · refine lv_aload_n hx hb d_Dr_joinToRow_66 rfl (lv_at hl 2 rfl) ?_
      refine va_get (D := D) (ci := 0) (v := .ref dl) (C := R_Dr) (T := T_Dr) (N := 7) hx hb hts (fun w h => List.mem_cons_of_mem _ (inA_Dr w h)) hown hK hP 0 rfl rfl 3 (by decide) (hw k_Dr_f27) (fun _ h9 => h9) rfl d_Dr_joinToRow_67 ?_
      refine lv_iload_n hx hb d_Dr_joinToRow_70 rfl (lv_at hl 0 rfl) ?_
      have hPc : va_P D vwCl [(dl, .inr (3, [.ref dlw])), (dlw, .inl (c 2, 4 * 40, .inr (.inl lw)))] H := hP.sub (ws' := [(dl, .inr (3, [.ref dlw])), (dlw, .inl (c 2, 4 * 40, .inr (.inl lw)))]) [5, 6] rfl
      have hDc : va_D A [(dl, .inr (3, [.ref dlw])), (dlw, .inl (c 2, 4 * 40, .inr (.inl lw)))] := hD.sub (ws' := [(dl, .inr (3, [.ref dlw])), (dlw, .inl (c 2, 4 * 40, .inr (.inl lw)))]) [5, 6] (by decide) rfl
      have hDt : va_D (fun _ => True) [(dl, .inr (3, [.ref dlw])), (dlw, .inl (c 2, 4 * 40, .inr (.inl lw)))] := hDc.weaken (fun _ _ _ _ => trivial)
      refine z_callv (S := Unit) (w1 := fun u => [(dl, .inr (3, [.ref dlw])), (dlw, .inl (c 2, 4 * 40, .inr (.inl (zclr lw q))))]) (post := fun u => True) (wc := [(dl, .inr (3, [.ref dlw])), (dlw, .inl (c 2, 4 * 40, .inr (.inl lw)))]) [5, 6] rfl (fun _ => rfl) hP hD hS (va_runV (rm := rm_removeAll) (As := [.int (zI ((q : Nat) : Int))]) (rest := []) ⟨hx, hb, hml, hown, hts⟩ (c_removeAll l D c dl dlw 40 lw q (by omega) (by omega)) (cwV 1 hts (gWV k_Dr_m41 k_i_Se_removeAll k_v_Se_removeAll k_n_Se k_c_Se_removeAll) rfl rfl rfl (by decide +kernel) ⟨Nat.le_of_ble_eq_true rfl, Nat.le_of_ble_eq_true rfl⟩) ⟨zblindW, va_recv hK hPc (ci := 3) (q0 := 0) rfl rfl, fun U hU hW => ⟨rfl, ⟨by rw [hU]; exact hPc, hDt⟩, hKN.moved hW⟩⟩ rfl rfl hl.1 rfl (lv_room (Nat.le_of_ble_eq_true rfl)) d_Dr_joinToRow_71 ⟨Nat.zero_le _, Nat.zero_le _⟩) (fun u H locs hp_5 hP hD hS => ?_)
      have hP : va_P D vwCl [(d, .inr (0, [.ref dn, .ref df, .ref di, .ref dl, .ref dm, .int (zI ((nc : Nat) : Int)), .int (zI (((q + 2) : Nat) : Int))])), (df, .inr (3, [.ref dfw])), (dfw, .inl (c 2, 4 * 255, .inr (.inl (lfw fw iw lw q (q + 1) nc)))), (di, .inr (3, [.ref diw])), (diw, .inl (c 2, 4 * 40, .inr (.inl iw))), (dl, .inr (3, [.ref dlw])), (dlw, .inl (c 2, 4 * 40, .inr (.inl (zclr lw q)))), (dm, .inl (c 1, 40, .inl (fun j => zB (mb j))))] H := hP
      have hD : va_D A [(d, .inr (0, [.ref dn, .ref df, .ref di, .ref dl, .ref dm, .int (zI ((nc : Nat) : Int)), .int (zI (((q + 2) : Nat) : Int))])), (df, .inr (3, [.ref dfw])), (dfw, .inl (c 2, 4 * 255, .inr (.inl (lfw fw iw lw q (q + 1) nc)))), (di, .inr (3, [.ref diw])), (diw, .inl (c 2, 4 * 40, .inr (.inl iw))), (dl, .inr (3, [.ref dlw])), (dlw, .inl (c 2, 4 * 40, .inr (.inl (zclr lw q)))), (dm, .inl (c 1, 40, .inl (fun j => zB (mb j))))] := hD
      refine lv_aload_n hx hb d_Dr_joinToRow_74 rfl (lv_at hl 2 rfl) ?_
      refine va_get (D := D) (ci := 0) (v := .ref dl) (C := R_Dr) (T := T_Dr) (N := 7) hx hb hts (fun w h => List.mem_cons_of_mem _ (inA_Dr w h)) hown hK hP 0 rfl rfl 3 (by decide) (hw k_Dr_f27) (fun _ h9 => h9) rfl d_Dr_joinToRow_75 ?_
      refine lv_iload_n hx hb d_Dr_joinToRow_78 rfl (lv_at hl 0 rfl) ?_
      refine lv_aload_n hx hb d_Dr_joinToRow_79 rfl (lv_at hl 2 rfl) ?_
      refine va_get (D := D) (ci := 0) (v := .ref dl) (C := R_Dr) (T := T_Dr) (N := 7) hx hb hts (fun w h => List.mem_cons_of_mem _ (inA_Dr w h)) hown hK hP 0 rfl rfl 3 (by decide) (hw k_Dr_f27) (fun _ h9 => h9) rfl d_Dr_joinToRow_80 ?_
      refine lv_iload_n hx hb d_Dr_joinToRow_83 rfl (lv_at hl 1 rfl) ?_
      have hPc : va_P D vwCl [(dl, .inr (3, [.ref dlw])), (dlw, .inl (c 2, 4 * 40, .inr (.inl (zclr lw q))))] H := hP.sub (ws' := [(dl, .inr (3, [.ref dlw])), (dlw, .inl (c 2, 4 * 40, .inr (.inl (zclr lw q))))]) [5, 6] rfl
      have hDc : va_D A [(dl, .inr (3, [.ref dlw])), (dlw, .inl (c 2, 4 * 40, .inr (.inl (zclr lw q))))] := hD.sub (ws' := [(dl, .inr (3, [.ref dlw])), (dlw, .inl (c 2, 4 * 40, .inr (.inl (zclr lw q))))]) [5, 6] (by decide) rfl
      have hDt : va_D (fun _ => True) [(dl, .inr (3, [.ref dlw])), (dlw, .inl (c 2, 4 * 40, .inr (.inl (zclr lw q))))] := hDc.weaken (fun _ _ _ _ => trivial)
      refine z_callv (S := Unit) (w1 := fun u => [(dl, .inr (3, [.ref dlw])), (dlw, .inl (c 2, 4 * 40, .inr (.inl (zor (zclr lw q) q (zclr lw q) (q + 1)))))]) (post := fun u => True) (wc := [(dl, .inr (3, [.ref dlw])), (dlw, .inl (c 2, 4 * 40, .inr (.inl (zclr lw q))))]) [5, 6] rfl (fun _ => rfl) hP hD hS (va_runV (rm := rm_addSelf) (As := [.int (zI ((q : Nat) : Int)), .ref dl, .int (zI ((q + 1 : Nat) : Int))]) (rest := []) ⟨hx, hb, hml, hown, hts⟩ (c_addSelf l D c dl dlw 40 (zclr lw q) q (q + 1) (by omega) (by omega) (by omega)) (cwV 3 hts (gWV k_Dr_m55 k_i_Se_addAll k_v_Se_addAll k_n_Se k_c_Se_addAll) rfl rfl rfl (by decide +kernel) ⟨Nat.le_of_ble_eq_true rfl, Nat.le_of_ble_eq_true rfl⟩) ⟨zblindW, va_recv hK hPc (ci := 3) (q0 := 0) rfl rfl, fun U hU hW => ⟨rfl, ⟨by rw [hU]; exact hPc, hDt⟩, hKN.moved hW⟩⟩ rfl rfl hl.1 rfl (lv_room (Nat.le_of_ble_eq_true rfl)) d_Dr_joinToRow_84 ⟨Nat.zero_le _, Nat.zero_le _⟩) (fun u H locs hp_6 hP hD hS => ?_)
      have hP : va_P D vwCl [(d, .inr (0, [.ref dn, .ref df, .ref di, .ref dl, .ref dm, .int (zI ((nc : Nat) : Int)), .int (zI (((q + 2) : Nat) : Int))])), (df, .inr (3, [.ref dfw])), (dfw, .inl (c 2, 4 * 255, .inr (.inl (lfw fw iw lw q (q + 1) nc)))), (di, .inr (3, [.ref diw])), (diw, .inl (c 2, 4 * 40, .inr (.inl iw))), (dl, .inr (3, [.ref dlw])), (dlw, .inl (c 2, 4 * 40, .inr (.inl (zor (zclr lw q) q (zclr lw q) (q + 1))))), (dm, .inl (c 1, 40, .inl (fun j => zB (mb j))))] H := hP
      have hD : va_D A [(d, .inr (0, [.ref dn, .ref df, .ref di, .ref dl, .ref dm, .int (zI ((nc : Nat) : Int)), .int (zI (((q + 2) : Nat) : Int))])), (df, .inr (3, [.ref dfw])), (dfw, .inl (c 2, 4 * 255, .inr (.inl (lfw fw iw lw q (q + 1) nc)))), (di, .inr (3, [.ref diw])), (diw, .inl (c 2, 4 * 40, .inr (.inl iw))), (dl, .inr (3, [.ref dlw])), (dlw, .inl (c 2, 4 * 40, .inr (.inl (zor (zclr lw q) q (zclr lw q) (q + 1))))), (dm, .inl (c 1, 40, .inl (fun j => zB (mb j))))] := hD
      refine lv_aload_n hx hb d_Dr_joinToRow_87 rfl (lv_at hl 2 rfl) ?_
      refine va_get (D := D) (ci := 0) (v := .ref dm) (C := R_Dr) (T := T_Dr) (N := 7) hx hb hts (fun w h => List.mem_cons_of_mem _ (inA_Dr w h)) hown hK hP 0 rfl rfl 4 (by decide) (hw k_Dr_f30) (fun _ h9 => h9) rfl d_Dr_joinToRow_88 ?_
      refine lv_iload_n hx hb d_Dr_joinToRow_91 rfl (lv_at hl 0 rfl) ?_
      refine lv_aload_n hx hb d_Dr_joinToRow_92 rfl (lv_at hl 2 rfl) ?_
      refine va_get (D := D) (ci := 0) (v := .ref dm) (C := R_Dr) (T := T_Dr) (N := 7) hx hb hts (fun w h => List.mem_cons_of_mem _ (inA_Dr w h)) hown hK hP 0 rfl rfl 4 (by decide) (hw k_Dr_f30) (fun _ h9 => h9) rfl d_Dr_joinToRow_93 ?_
      refine lv_iload_n hx hb d_Dr_joinToRow_96 rfl (lv_at hl 0 rfl) ?_
      refine z_zald hx hb hK hP 7 1 rfl rfl (q) (by omega) (by omega) (by omega) d_Dr_joinToRow_97 ?_
      refine z_ifeq_B (tgt := 114) hx hb d_Dr_joinToRow_98 (by decide) (fun hc_98 => ?_) (fun hc_98 => ?_)
      · refine lv_iconst (v := zI 0) hx hb d_Dr_joinToRow_114 (by decide) ?_
        refine z_top (v2 := .int (zB false)) (congrArg Value.int (by decide)) ?_
        refine z_zast hx hb hK hP hD hS 7 1 rfl rfl (q) (by omega) (by omega) (by omega) d_Dr_joinToRow_115 (fun H locs hP hD hS => ?_)
        have hP : va_P D vwCl [(d, .inr (0, [.ref dn, .ref df, .ref di, .ref dl, .ref dm, .int (zI ((nc : Nat) : Int)), .int (zI (((q + 2) : Nat) : Int))])), (df, .inr (3, [.ref dfw])), (dfw, .inl (c 2, 4 * 255, .inr (.inl (lfw fw iw lw q (q + 1) nc)))), (di, .inr (3, [.ref diw])), (diw, .inl (c 2, 4 * 40, .inr (.inl iw))), (dl, .inr (3, [.ref dlw])), (dlw, .inl (c 2, 4 * 40, .inr (.inl (zor (zclr lw q) q (zclr lw q) (q + 1))))), (dm, .inl (c 1, 40, .inl (fun j => zB ((va_up mb q false) j))))] H := hP
        have hD : va_D A [(d, .inr (0, [.ref dn, .ref df, .ref di, .ref dl, .ref dm, .int (zI ((nc : Nat) : Int)), .int (zI (((q + 2) : Nat) : Int))])), (df, .inr (3, [.ref dfw])), (dfw, .inl (c 2, 4 * 255, .inr (.inl (lfw fw iw lw q (q + 1) nc)))), (di, .inr (3, [.ref diw])), (diw, .inl (c 2, 4 * 40, .inr (.inl iw))), (dl, .inr (3, [.ref dlw])), (dlw, .inl (c 2, 4 * 40, .inr (.inl (zor (zclr lw q) q (zclr lw q) (q + 1))))), (dm, .inl (c 1, 40, .inl (fun j => zB ((va_up mb q false) j))))] := hD
        refine lv_aload_n hx hb d_Dr_joinToRow_116 rfl (lv_at hl 2 rfl) ?_
        refine lv_iload_n hx hb d_Dr_joinToRow_117 rfl (lv_at hl 1 rfl) ?_
        refine va_put (D := D) (ci := 0) (v := .int (zI ((q + 1 : Nat) : Int))) (ty := .int) (C := R_Dr) (T := T_Dr) (N := 7) hx hb hts (fun w h => List.mem_cons_of_mem _ (inA_Dr w h)) ty_Dr tyok_Dr nm_Dr hown hK hP hD hS 0 rfl rfl 6 (by decide) (hw k_Dr_f34) (fun _ h9 => h9) rfl (by decide +kernel) rfl rfl (Nat.le_of_ble_eq_true rfl) d_Dr_joinToRow_118 (fun H locs hP hD hS => ?_)
        have hP : va_P D vwCl [(d, .inr (0, [.ref dn, .ref df, .ref di, .ref dl, .ref dm, .int (zI ((nc : Nat) : Int)), .int (zI ((q + 1 : Nat) : Int))])), (df, .inr (3, [.ref dfw])), (dfw, .inl (c 2, 4 * 255, .inr (.inl (lfw fw iw lw q (q + 1) nc)))), (di, .inr (3, [.ref diw])), (diw, .inl (c 2, 4 * 40, .inr (.inl iw))), (dl, .inr (3, [.ref dlw])), (dlw, .inl (c 2, 4 * 40, .inr (.inl (zor (zclr lw q) q (zclr lw q) (q + 1))))), (dm, .inl (c 1, 40, .inl (fun j => zB ((va_up mb q false) j))))] H := hP
        have hD : va_D A [(d, .inr (0, [.ref dn, .ref df, .ref di, .ref dl, .ref dm, .int (zI ((nc : Nat) : Int)), .int (zI ((q + 1 : Nat) : Int))])), (df, .inr (3, [.ref dfw])), (dfw, .inl (c 2, 4 * 255, .inr (.inl (lfw fw iw lw q (q + 1) nc)))), (di, .inr (3, [.ref diw])), (diw, .inl (c 2, 4 * 40, .inr (.inl iw))), (dl, .inr (3, [.ref dlw])), (dlw, .inl (c 2, 4 * 40, .inr (.inl (zor (zclr lw q) q (zclr lw q) (q + 1))))), (dm, .inl (c 1, 40, .inl (fun j => zB ((va_up mb q false) j))))] := hD
        refine lv_iconst (v := zI 1) hx hb d_Dr_joinToRow_121 (by decide) ?_
        subst hQ
        exact W.zret (ty := .boolean) (v := (zI 1)) hx hb hr (by decide) (fun t9 ht hW => ⟨⟨_, (), rfl, ⟨(by decide), trivial⟩, by show va_P _ _ _ t9.heap; rw [ht]; rw [jrI_F hc_41, jrL0_F hc_63, show (mb q && mb (q + 1)) = false by first | (simp [*]; done) | (exfalso; rw [hc_41] at hc_98; cases hc_98; done) | (exfalso; rw [hc_63] at hc_107; cases hc_107; done)]; exact hP⟩, hS.F ht⟩) hS.2.2 d_Dr_joinToRow_122
      · refine lv_aload_n hx hb d_Dr_joinToRow_101 rfl (lv_at hl 2 rfl) ?_
        refine va_get (D := D) (ci := 0) (v := .ref dm) (C := R_Dr) (T := T_Dr) (N := 7) hx hb hts (fun w h => List.mem_cons_of_mem _ (inA_Dr w h)) hown hK hP 0 rfl rfl 4 (by decide) (hw k_Dr_f30) (fun _ h9 => h9) rfl d_Dr_joinToRow_102 ?_
        refine lv_iload_n hx hb d_Dr_joinToRow_105 rfl (lv_at hl 1 rfl) ?_
        refine z_zald hx hb hK hP 7 1 rfl rfl (q + 1) (by omega) (by omega) (by omega) d_Dr_joinToRow_106 ?_
        refine z_ifeq_B (tgt := 114) hx hb d_Dr_joinToRow_107 (by decide) (fun hc_107 => ?_) (fun hc_107 => ?_)
        · refine lv_iconst (v := zI 0) hx hb d_Dr_joinToRow_114 (by decide) ?_
          refine z_top (v2 := .int (zB false)) (congrArg Value.int (by decide)) ?_
          refine z_zast hx hb hK hP hD hS 7 1 rfl rfl (q) (by omega) (by omega) (by omega) d_Dr_joinToRow_115 (fun H locs hP hD hS => ?_)
          have hP : va_P D vwCl [(d, .inr (0, [.ref dn, .ref df, .ref di, .ref dl, .ref dm, .int (zI ((nc : Nat) : Int)), .int (zI (((q + 2) : Nat) : Int))])), (df, .inr (3, [.ref dfw])), (dfw, .inl (c 2, 4 * 255, .inr (.inl (lfw fw iw lw q (q + 1) nc)))), (di, .inr (3, [.ref diw])), (diw, .inl (c 2, 4 * 40, .inr (.inl iw))), (dl, .inr (3, [.ref dlw])), (dlw, .inl (c 2, 4 * 40, .inr (.inl (zor (zclr lw q) q (zclr lw q) (q + 1))))), (dm, .inl (c 1, 40, .inl (fun j => zB ((va_up mb q false) j))))] H := hP
          have hD : va_D A [(d, .inr (0, [.ref dn, .ref df, .ref di, .ref dl, .ref dm, .int (zI ((nc : Nat) : Int)), .int (zI (((q + 2) : Nat) : Int))])), (df, .inr (3, [.ref dfw])), (dfw, .inl (c 2, 4 * 255, .inr (.inl (lfw fw iw lw q (q + 1) nc)))), (di, .inr (3, [.ref diw])), (diw, .inl (c 2, 4 * 40, .inr (.inl iw))), (dl, .inr (3, [.ref dlw])), (dlw, .inl (c 2, 4 * 40, .inr (.inl (zor (zclr lw q) q (zclr lw q) (q + 1))))), (dm, .inl (c 1, 40, .inl (fun j => zB ((va_up mb q false) j))))] := hD
          refine lv_aload_n hx hb d_Dr_joinToRow_116 rfl (lv_at hl 2 rfl) ?_
          refine lv_iload_n hx hb d_Dr_joinToRow_117 rfl (lv_at hl 1 rfl) ?_
          refine va_put (D := D) (ci := 0) (v := .int (zI ((q + 1 : Nat) : Int))) (ty := .int) (C := R_Dr) (T := T_Dr) (N := 7) hx hb hts (fun w h => List.mem_cons_of_mem _ (inA_Dr w h)) ty_Dr tyok_Dr nm_Dr hown hK hP hD hS 0 rfl rfl 6 (by decide) (hw k_Dr_f34) (fun _ h9 => h9) rfl (by decide +kernel) rfl rfl (Nat.le_of_ble_eq_true rfl) d_Dr_joinToRow_118 (fun H locs hP hD hS => ?_)
          have hP : va_P D vwCl [(d, .inr (0, [.ref dn, .ref df, .ref di, .ref dl, .ref dm, .int (zI ((nc : Nat) : Int)), .int (zI ((q + 1 : Nat) : Int))])), (df, .inr (3, [.ref dfw])), (dfw, .inl (c 2, 4 * 255, .inr (.inl (lfw fw iw lw q (q + 1) nc)))), (di, .inr (3, [.ref diw])), (diw, .inl (c 2, 4 * 40, .inr (.inl iw))), (dl, .inr (3, [.ref dlw])), (dlw, .inl (c 2, 4 * 40, .inr (.inl (zor (zclr lw q) q (zclr lw q) (q + 1))))), (dm, .inl (c 1, 40, .inl (fun j => zB ((va_up mb q false) j))))] H := hP
          have hD : va_D A [(d, .inr (0, [.ref dn, .ref df, .ref di, .ref dl, .ref dm, .int (zI ((nc : Nat) : Int)), .int (zI ((q + 1 : Nat) : Int))])), (df, .inr (3, [.ref dfw])), (dfw, .inl (c 2, 4 * 255, .inr (.inl (lfw fw iw lw q (q + 1) nc)))), (di, .inr (3, [.ref diw])), (diw, .inl (c 2, 4 * 40, .inr (.inl iw))), (dl, .inr (3, [.ref dlw])), (dlw, .inl (c 2, 4 * 40, .inr (.inl (zor (zclr lw q) q (zclr lw q) (q + 1))))), (dm, .inl (c 1, 40, .inl (fun j => zB ((va_up mb q false) j))))] := hD
          refine lv_iconst (v := zI 1) hx hb d_Dr_joinToRow_121 (by decide) ?_
          subst hQ
          exact W.zret (ty := .boolean) (v := (zI 1)) hx hb hr (by decide) (fun t9 ht hW => ⟨⟨_, (), rfl, ⟨(by decide), trivial⟩, by show va_P _ _ _ t9.heap; rw [ht]; rw [jrI_F hc_41, jrL0_F hc_63, show (mb q && mb (q + 1)) = false by first | (simp [*]; done) | (exfalso; rw [hc_41] at hc_98; cases hc_98; done) | (exfalso; rw [hc_63] at hc_107; cases hc_107; done)]; exact hP⟩, hS.F ht⟩) hS.2.2 d_Dr_joinToRow_122
        · refine lv_iconst (v := zI 1) hx hb d_Dr_joinToRow_110 (by decide) ?_
          refine lv_goto (tgt := 115) hx hb d_Dr_joinToRow_111 (by decide) ?_
          refine z_top (v2 := .int (zB true)) (congrArg Value.int (by decide)) ?_
          refine z_zast hx hb hK hP hD hS 7 1 rfl rfl (q) (by omega) (by omega) (by omega) d_Dr_joinToRow_115 (fun H locs hP hD hS => ?_)
          have hP : va_P D vwCl [(d, .inr (0, [.ref dn, .ref df, .ref di, .ref dl, .ref dm, .int (zI ((nc : Nat) : Int)), .int (zI (((q + 2) : Nat) : Int))])), (df, .inr (3, [.ref dfw])), (dfw, .inl (c 2, 4 * 255, .inr (.inl (lfw fw iw lw q (q + 1) nc)))), (di, .inr (3, [.ref diw])), (diw, .inl (c 2, 4 * 40, .inr (.inl iw))), (dl, .inr (3, [.ref dlw])), (dlw, .inl (c 2, 4 * 40, .inr (.inl (zor (zclr lw q) q (zclr lw q) (q + 1))))), (dm, .inl (c 1, 40, .inl (fun j => zB ((va_up mb q true) j))))] H := hP
          have hD : va_D A [(d, .inr (0, [.ref dn, .ref df, .ref di, .ref dl, .ref dm, .int (zI ((nc : Nat) : Int)), .int (zI (((q + 2) : Nat) : Int))])), (df, .inr (3, [.ref dfw])), (dfw, .inl (c 2, 4 * 255, .inr (.inl (lfw fw iw lw q (q + 1) nc)))), (di, .inr (3, [.ref diw])), (diw, .inl (c 2, 4 * 40, .inr (.inl iw))), (dl, .inr (3, [.ref dlw])), (dlw, .inl (c 2, 4 * 40, .inr (.inl (zor (zclr lw q) q (zclr lw q) (q + 1))))), (dm, .inl (c 1, 40, .inl (fun j => zB ((va_up mb q true) j))))] := hD
          refine lv_aload_n hx hb d_Dr_joinToRow_116 rfl (lv_at hl 2 rfl) ?_
          refine lv_iload_n hx hb d_Dr_joinToRow_117 rfl (lv_at hl 1 rfl) ?_
          refine va_put (D := D) (ci := 0) (v := .int (zI ((q + 1 : Nat) : Int))) (ty := .int) (C := R_Dr) (T := T_Dr) (N := 7) hx hb hts (fun w h => List.mem_cons_of_mem _ (inA_Dr w h)) ty_Dr tyok_Dr nm_Dr hown hK hP hD hS 0 rfl rfl 6 (by decide) (hw k_Dr_f34) (fun _ h9 => h9) rfl (by decide +kernel) rfl rfl (Nat.le_of_ble_eq_true rfl) d_Dr_joinToRow_118 (fun H locs hP hD hS => ?_)
          have hP : va_P D vwCl [(d, .inr (0, [.ref dn, .ref df, .ref di, .ref dl, .ref dm, .int (zI ((nc : Nat) : Int)), .int (zI ((q + 1 : Nat) : Int))])), (df, .inr (3, [.ref dfw])), (dfw, .inl (c 2, 4 * 255, .inr (.inl (lfw fw iw lw q (q + 1) nc)))), (di, .inr (3, [.ref diw])), (diw, .inl (c 2, 4 * 40, .inr (.inl iw))), (dl, .inr (3, [.ref dlw])), (dlw, .inl (c 2, 4 * 40, .inr (.inl (zor (zclr lw q) q (zclr lw q) (q + 1))))), (dm, .inl (c 1, 40, .inl (fun j => zB ((va_up mb q true) j))))] H := hP
          have hD : va_D A [(d, .inr (0, [.ref dn, .ref df, .ref di, .ref dl, .ref dm, .int (zI ((nc : Nat) : Int)), .int (zI ((q + 1 : Nat) : Int))])), (df, .inr (3, [.ref dfw])), (dfw, .inl (c 2, 4 * 255, .inr (.inl (lfw fw iw lw q (q + 1) nc)))), (di, .inr (3, [.ref diw])), (diw, .inl (c 2, 4 * 40, .inr (.inl iw))), (dl, .inr (3, [.ref dlw])), (dlw, .inl (c 2, 4 * 40, .inr (.inl (zor (zclr lw q) q (zclr lw q) (q + 1))))), (dm, .inl (c 1, 40, .inl (fun j => zB ((va_up mb q true) j))))] := hD
          refine lv_iconst (v := zI 1) hx hb d_Dr_joinToRow_121 (by decide) ?_
          subst hQ
          exact W.zret (ty := .boolean) (v := (zI 1)) hx hb hr (by decide) (fun t9 ht hW => ⟨⟨_, (), rfl, ⟨(by decide), trivial⟩, by show va_P _ _ _ t9.heap; rw [ht]; rw [jrI_F hc_41, jrL0_F hc_63, show (mb q && mb (q + 1)) = true by first | (simp [*]; done) | (exfalso; rw [hc_41] at hc_98; cases hc_98; done) | (exfalso; rw [hc_63] at hc_107; cases hc_107; done)]; exact hP⟩, hS.F ht⟩) hS.2.2 d_Dr_joinToRow_122
  · refine lv_aload_n hx hb d_Dr_joinToRow_44 rfl (lv_at hl 2 rfl) ?_
    refine va_get (D := D) (ci := 0) (v := .ref di) (C := R_Dr) (T := T_Dr) (N := 7) hx hb hts (fun w h => List.mem_cons_of_mem _ (inA_Dr w h)) hown hK hP 0 rfl rfl 2 (by decide) (hw k_Dr_f24) (fun _ h9 => h9) rfl d_Dr_joinToRow_45 ?_
    refine lv_iload_n hx hb d_Dr_joinToRow_48 rfl (lv_at hl 0 rfl) ?_
    refine lv_aload_n hx hb d_Dr_joinToRow_49 rfl (lv_at hl 2 rfl) ?_
    refine va_get (D := D) (ci := 0) (v := .ref di) (C := R_Dr) (T := T_Dr) (N := 7) hx hb hts (fun w h => List.mem_cons_of_mem _ (inA_Dr w h)) hown hK hP 0 rfl rfl 2 (by decide) (hw k_Dr_f24) (fun _ h9 => h9) rfl d_Dr_joinToRow_50 ?_
    refine lv_iload_n hx hb d_Dr_joinToRow_53 rfl (lv_at hl 1 rfl) ?_
    have hPc : va_P D vwCl [(di, .inr (3, [.ref diw])), (diw, .inl (c 2, 4 * 40, .inr (.inl iw)))] H := hP.sub (ws' := [(di, .inr (3, [.ref diw])), (diw, .inl (c 2, 4 * 40, .inr (.inl iw)))]) [3, 4] rfl
    have hDc : va_D A [(di, .inr (3, [.ref diw])), (diw, .inl (c 2, 4 * 40, .inr (.inl iw)))] := hD.sub (ws' := [(di, .inr (3, [.ref diw])), (diw, .inl (c 2, 4 * 40, .inr (.inl iw)))]) [3, 4] (by decide) rfl
    have hDt : va_D (fun _ => True) [(di, .inr (3, [.ref diw])), (diw, .inl (c 2, 4 * 40, .inr (.inl iw)))] := hDc.weaken (fun _ _ _ _ => trivial)
    refine z_callv (S := Unit) (w1 := fun u => [(di, .inr (3, [.ref diw])), (diw, .inl (c 2, 4 * 40, .inr (.inl (zor iw q iw (q + 1)))))]) (post := fun u => True) (wc := [(di, .inr (3, [.ref diw])), (diw, .inl (c 2, 4 * 40, .inr (.inl iw)))]) [3, 4] rfl (fun _ => rfl) hP hD hS (va_runV (rm := rm_addSelf) (As := [.int (zI ((q : Nat) : Int)), .ref di, .int (zI ((q + 1 : Nat) : Int))]) (rest := []) ⟨hx, hb, hml, hown, hts⟩ (c_addSelf l D c di diw 40 iw q (q + 1) (by omega) (by omega) (by omega)) (cwV 3 hts (gWV k_Dr_m55 k_i_Se_addAll k_v_Se_addAll k_n_Se k_c_Se_addAll) rfl rfl rfl (by decide +kernel) ⟨Nat.le_of_ble_eq_true rfl, Nat.le_of_ble_eq_true rfl⟩) ⟨zblindW, va_recv hK hPc (ci := 3) (q0 := 0) rfl rfl, fun U hU hW => ⟨rfl, ⟨by rw [hU]; exact hPc, hDt⟩, hKN.moved hW⟩⟩ rfl rfl hl.1 rfl (lv_room (Nat.le_of_ble_eq_true rfl)) d_Dr_joinToRow_54 ⟨Nat.zero_le _, Nat.zero_le _⟩) (fun u H locs hp_7 hP hD hS => ?_)
    have hP : va_P D vwCl [(d, .inr (0, [.ref dn, .ref df, .ref di, .ref dl, .ref dm, .int (zI ((nc : Nat) : Int)), .int (zI (((q + 2) : Nat) : Int))])), (df, .inr (3, [.ref dfw])), (dfw, .inl (c 2, 4 * 255, .inr (.inl (lfw fw iw lw q (q + 1) nc)))), (di, .inr (3, [.ref diw])), (diw, .inl (c 2, 4 * 40, .inr (.inl (zor iw q iw (q + 1))))), (dl, .inr (3, [.ref dlw])), (dlw, .inl (c 2, 4 * 40, .inr (.inl lw))), (dm, .inl (c 1, 40, .inl (fun j => zB (mb j))))] H := hP
    have hD : va_D A [(d, .inr (0, [.ref dn, .ref df, .ref di, .ref dl, .ref dm, .int (zI ((nc : Nat) : Int)), .int (zI (((q + 2) : Nat) : Int))])), (df, .inr (3, [.ref dfw])), (dfw, .inl (c 2, 4 * 255, .inr (.inl (lfw fw iw lw q (q + 1) nc)))), (di, .inr (3, [.ref diw])), (diw, .inl (c 2, 4 * 40, .inr (.inl (zor iw q iw (q + 1))))), (dl, .inr (3, [.ref dlw])), (dlw, .inl (c 2, 4 * 40, .inr (.inl lw))), (dm, .inl (c 1, 40, .inl (fun j => zB (mb j))))] := hD
    refine lv_aload_n hx hb d_Dr_joinToRow_57 rfl (lv_at hl 2 rfl) ?_
    refine va_get (D := D) (ci := 0) (v := .ref dm) (C := R_Dr) (T := T_Dr) (N := 7) hx hb hts (fun w h => List.mem_cons_of_mem _ (inA_Dr w h)) hown hK hP 0 rfl rfl 4 (by decide) (hw k_Dr_f30) (fun _ h9 => h9) rfl d_Dr_joinToRow_58 ?_
    refine lv_iload_n hx hb d_Dr_joinToRow_61 rfl (lv_at hl 1 rfl) ?_
    refine z_zald hx hb hK hP 7 1 rfl rfl (q + 1) (by omega) (by omega) (by omega) d_Dr_joinToRow_62 ?_
    refine z_ifne_B (tgt := 74) hx hb d_Dr_joinToRow_63 (by decide) (fun hc_63 => ?_) (fun hc_63 => ?_)
    · refine lv_aload_n hx hb d_Dr_joinToRow_74 rfl (lv_at hl 2 rfl) ?_
      refine va_get (D := D) (ci := 0) (v := .ref dl) (C := R_Dr) (T := T_Dr) (N := 7) hx hb hts (fun w h => List.mem_cons_of_mem _ (inA_Dr w h)) hown hK hP 0 rfl rfl 3 (by decide) (hw k_Dr_f27) (fun _ h9 => h9) rfl d_Dr_joinToRow_75 ?_
      refine lv_iload_n hx hb d_Dr_joinToRow_78 rfl (lv_at hl 0 rfl) ?_
      refine lv_aload_n hx hb d_Dr_joinToRow_79 rfl (lv_at hl 2 rfl) ?_
      refine va_get (D := D) (ci := 0) (v := .ref dl) (C := R_Dr) (T := T_Dr) (N := 7) hx hb hts (fun w h => List.mem_cons_of_mem _ (inA_Dr w h)) hown hK hP 0 rfl rfl 3 (by decide) (hw k_Dr_f27) (fun _ h9 => h9) rfl d_Dr_joinToRow_80 ?_
      refine lv_iload_n hx hb d_Dr_joinToRow_83 rfl (lv_at hl 1 rfl) ?_
      have hPc : va_P D vwCl [(dl, .inr (3, [.ref dlw])), (dlw, .inl (c 2, 4 * 40, .inr (.inl lw)))] H := hP.sub (ws' := [(dl, .inr (3, [.ref dlw])), (dlw, .inl (c 2, 4 * 40, .inr (.inl lw)))]) [5, 6] rfl
      have hDc : va_D A [(dl, .inr (3, [.ref dlw])), (dlw, .inl (c 2, 4 * 40, .inr (.inl lw)))] := hD.sub (ws' := [(dl, .inr (3, [.ref dlw])), (dlw, .inl (c 2, 4 * 40, .inr (.inl lw)))]) [5, 6] (by decide) rfl
      have hDt : va_D (fun _ => True) [(dl, .inr (3, [.ref dlw])), (dlw, .inl (c 2, 4 * 40, .inr (.inl lw)))] := hDc.weaken (fun _ _ _ _ => trivial)
      refine z_callv (S := Unit) (w1 := fun u => [(dl, .inr (3, [.ref dlw])), (dlw, .inl (c 2, 4 * 40, .inr (.inl (zor lw q lw (q + 1)))))]) (post := fun u => True) (wc := [(dl, .inr (3, [.ref dlw])), (dlw, .inl (c 2, 4 * 40, .inr (.inl lw)))]) [5, 6] rfl (fun _ => rfl) hP hD hS (va_runV (rm := rm_addSelf) (As := [.int (zI ((q : Nat) : Int)), .ref dl, .int (zI ((q + 1 : Nat) : Int))]) (rest := []) ⟨hx, hb, hml, hown, hts⟩ (c_addSelf l D c dl dlw 40 lw q (q + 1) (by omega) (by omega) (by omega)) (cwV 3 hts (gWV k_Dr_m55 k_i_Se_addAll k_v_Se_addAll k_n_Se k_c_Se_addAll) rfl rfl rfl (by decide +kernel) ⟨Nat.le_of_ble_eq_true rfl, Nat.le_of_ble_eq_true rfl⟩) ⟨zblindW, va_recv hK hPc (ci := 3) (q0 := 0) rfl rfl, fun U hU hW => ⟨rfl, ⟨by rw [hU]; exact hPc, hDt⟩, hKN.moved hW⟩⟩ rfl rfl hl.1 rfl (lv_room (Nat.le_of_ble_eq_true rfl)) d_Dr_joinToRow_84 ⟨Nat.zero_le _, Nat.zero_le _⟩) (fun u H locs hp_8 hP hD hS => ?_)
      have hP : va_P D vwCl [(d, .inr (0, [.ref dn, .ref df, .ref di, .ref dl, .ref dm, .int (zI ((nc : Nat) : Int)), .int (zI (((q + 2) : Nat) : Int))])), (df, .inr (3, [.ref dfw])), (dfw, .inl (c 2, 4 * 255, .inr (.inl (lfw fw iw lw q (q + 1) nc)))), (di, .inr (3, [.ref diw])), (diw, .inl (c 2, 4 * 40, .inr (.inl (zor iw q iw (q + 1))))), (dl, .inr (3, [.ref dlw])), (dlw, .inl (c 2, 4 * 40, .inr (.inl (zor lw q lw (q + 1))))), (dm, .inl (c 1, 40, .inl (fun j => zB (mb j))))] H := hP
      have hD : va_D A [(d, .inr (0, [.ref dn, .ref df, .ref di, .ref dl, .ref dm, .int (zI ((nc : Nat) : Int)), .int (zI (((q + 2) : Nat) : Int))])), (df, .inr (3, [.ref dfw])), (dfw, .inl (c 2, 4 * 255, .inr (.inl (lfw fw iw lw q (q + 1) nc)))), (di, .inr (3, [.ref diw])), (diw, .inl (c 2, 4 * 40, .inr (.inl (zor iw q iw (q + 1))))), (dl, .inr (3, [.ref dlw])), (dlw, .inl (c 2, 4 * 40, .inr (.inl (zor lw q lw (q + 1))))), (dm, .inl (c 1, 40, .inl (fun j => zB (mb j))))] := hD
      refine lv_aload_n hx hb d_Dr_joinToRow_87 rfl (lv_at hl 2 rfl) ?_
      refine va_get (D := D) (ci := 0) (v := .ref dm) (C := R_Dr) (T := T_Dr) (N := 7) hx hb hts (fun w h => List.mem_cons_of_mem _ (inA_Dr w h)) hown hK hP 0 rfl rfl 4 (by decide) (hw k_Dr_f30) (fun _ h9 => h9) rfl d_Dr_joinToRow_88 ?_
      refine lv_iload_n hx hb d_Dr_joinToRow_91 rfl (lv_at hl 0 rfl) ?_
      refine lv_aload_n hx hb d_Dr_joinToRow_92 rfl (lv_at hl 2 rfl) ?_
      refine va_get (D := D) (ci := 0) (v := .ref dm) (C := R_Dr) (T := T_Dr) (N := 7) hx hb hts (fun w h => List.mem_cons_of_mem _ (inA_Dr w h)) hown hK hP 0 rfl rfl 4 (by decide) (hw k_Dr_f30) (fun _ h9 => h9) rfl d_Dr_joinToRow_93 ?_
      refine lv_iload_n hx hb d_Dr_joinToRow_96 rfl (lv_at hl 0 rfl) ?_
      refine z_zald hx hb hK hP 7 1 rfl rfl (q) (by omega) (by omega) (by omega) d_Dr_joinToRow_97 ?_
      refine z_ifeq_B (tgt := 114) hx hb d_Dr_joinToRow_98 (by decide) (fun hc_98 => ?_) (fun hc_98 => ?_)
      · refine lv_iconst (v := zI 0) hx hb d_Dr_joinToRow_114 (by decide) ?_
        refine z_top (v2 := .int (zB false)) (congrArg Value.int (by decide)) ?_
        refine z_zast hx hb hK hP hD hS 7 1 rfl rfl (q) (by omega) (by omega) (by omega) d_Dr_joinToRow_115 (fun H locs hP hD hS => ?_)
        have hP : va_P D vwCl [(d, .inr (0, [.ref dn, .ref df, .ref di, .ref dl, .ref dm, .int (zI ((nc : Nat) : Int)), .int (zI (((q + 2) : Nat) : Int))])), (df, .inr (3, [.ref dfw])), (dfw, .inl (c 2, 4 * 255, .inr (.inl (lfw fw iw lw q (q + 1) nc)))), (di, .inr (3, [.ref diw])), (diw, .inl (c 2, 4 * 40, .inr (.inl (zor iw q iw (q + 1))))), (dl, .inr (3, [.ref dlw])), (dlw, .inl (c 2, 4 * 40, .inr (.inl (zor lw q lw (q + 1))))), (dm, .inl (c 1, 40, .inl (fun j => zB ((va_up mb q false) j))))] H := hP
        have hD : va_D A [(d, .inr (0, [.ref dn, .ref df, .ref di, .ref dl, .ref dm, .int (zI ((nc : Nat) : Int)), .int (zI (((q + 2) : Nat) : Int))])), (df, .inr (3, [.ref dfw])), (dfw, .inl (c 2, 4 * 255, .inr (.inl (lfw fw iw lw q (q + 1) nc)))), (di, .inr (3, [.ref diw])), (diw, .inl (c 2, 4 * 40, .inr (.inl (zor iw q iw (q + 1))))), (dl, .inr (3, [.ref dlw])), (dlw, .inl (c 2, 4 * 40, .inr (.inl (zor lw q lw (q + 1))))), (dm, .inl (c 1, 40, .inl (fun j => zB ((va_up mb q false) j))))] := hD
        refine lv_aload_n hx hb d_Dr_joinToRow_116 rfl (lv_at hl 2 rfl) ?_
        refine lv_iload_n hx hb d_Dr_joinToRow_117 rfl (lv_at hl 1 rfl) ?_
        refine va_put (D := D) (ci := 0) (v := .int (zI ((q + 1 : Nat) : Int))) (ty := .int) (C := R_Dr) (T := T_Dr) (N := 7) hx hb hts (fun w h => List.mem_cons_of_mem _ (inA_Dr w h)) ty_Dr tyok_Dr nm_Dr hown hK hP hD hS 0 rfl rfl 6 (by decide) (hw k_Dr_f34) (fun _ h9 => h9) rfl (by decide +kernel) rfl rfl (Nat.le_of_ble_eq_true rfl) d_Dr_joinToRow_118 (fun H locs hP hD hS => ?_)
        have hP : va_P D vwCl [(d, .inr (0, [.ref dn, .ref df, .ref di, .ref dl, .ref dm, .int (zI ((nc : Nat) : Int)), .int (zI ((q + 1 : Nat) : Int))])), (df, .inr (3, [.ref dfw])), (dfw, .inl (c 2, 4 * 255, .inr (.inl (lfw fw iw lw q (q + 1) nc)))), (di, .inr (3, [.ref diw])), (diw, .inl (c 2, 4 * 40, .inr (.inl (zor iw q iw (q + 1))))), (dl, .inr (3, [.ref dlw])), (dlw, .inl (c 2, 4 * 40, .inr (.inl (zor lw q lw (q + 1))))), (dm, .inl (c 1, 40, .inl (fun j => zB ((va_up mb q false) j))))] H := hP
        have hD : va_D A [(d, .inr (0, [.ref dn, .ref df, .ref di, .ref dl, .ref dm, .int (zI ((nc : Nat) : Int)), .int (zI ((q + 1 : Nat) : Int))])), (df, .inr (3, [.ref dfw])), (dfw, .inl (c 2, 4 * 255, .inr (.inl (lfw fw iw lw q (q + 1) nc)))), (di, .inr (3, [.ref diw])), (diw, .inl (c 2, 4 * 40, .inr (.inl (zor iw q iw (q + 1))))), (dl, .inr (3, [.ref dlw])), (dlw, .inl (c 2, 4 * 40, .inr (.inl (zor lw q lw (q + 1))))), (dm, .inl (c 1, 40, .inl (fun j => zB ((va_up mb q false) j))))] := hD
        refine lv_iconst (v := zI 1) hx hb d_Dr_joinToRow_121 (by decide) ?_
        subst hQ
        exact W.zret (ty := .boolean) (v := (zI 1)) hx hb hr (by decide) (fun t9 ht hW => ⟨⟨_, (), rfl, ⟨(by decide), trivial⟩, by show va_P _ _ _ t9.heap; rw [ht]; rw [jrI_T hc_41, jrL0_T hc_63, show (mb q && mb (q + 1)) = false by first | (simp [*]; done) | (exfalso; rw [hc_41] at hc_98; cases hc_98; done) | (exfalso; rw [hc_63] at hc_107; cases hc_107; done)]; exact hP⟩, hS.F ht⟩) hS.2.2 d_Dr_joinToRow_122
      · refine lv_aload_n hx hb d_Dr_joinToRow_101 rfl (lv_at hl 2 rfl) ?_
        refine va_get (D := D) (ci := 0) (v := .ref dm) (C := R_Dr) (T := T_Dr) (N := 7) hx hb hts (fun w h => List.mem_cons_of_mem _ (inA_Dr w h)) hown hK hP 0 rfl rfl 4 (by decide) (hw k_Dr_f30) (fun _ h9 => h9) rfl d_Dr_joinToRow_102 ?_
        refine lv_iload_n hx hb d_Dr_joinToRow_105 rfl (lv_at hl 1 rfl) ?_
        refine z_zald hx hb hK hP 7 1 rfl rfl (q + 1) (by omega) (by omega) (by omega) d_Dr_joinToRow_106 ?_
        refine z_ifeq_B (tgt := 114) hx hb d_Dr_joinToRow_107 (by decide) (fun hc_107 => ?_) (fun hc_107 => ?_)
        · refine lv_iconst (v := zI 0) hx hb d_Dr_joinToRow_114 (by decide) ?_
          refine z_top (v2 := .int (zB false)) (congrArg Value.int (by decide)) ?_
          refine z_zast hx hb hK hP hD hS 7 1 rfl rfl (q) (by omega) (by omega) (by omega) d_Dr_joinToRow_115 (fun H locs hP hD hS => ?_)
          have hP : va_P D vwCl [(d, .inr (0, [.ref dn, .ref df, .ref di, .ref dl, .ref dm, .int (zI ((nc : Nat) : Int)), .int (zI (((q + 2) : Nat) : Int))])), (df, .inr (3, [.ref dfw])), (dfw, .inl (c 2, 4 * 255, .inr (.inl (lfw fw iw lw q (q + 1) nc)))), (di, .inr (3, [.ref diw])), (diw, .inl (c 2, 4 * 40, .inr (.inl (zor iw q iw (q + 1))))), (dl, .inr (3, [.ref dlw])), (dlw, .inl (c 2, 4 * 40, .inr (.inl (zor lw q lw (q + 1))))), (dm, .inl (c 1, 40, .inl (fun j => zB ((va_up mb q false) j))))] H := hP
          have hD : va_D A [(d, .inr (0, [.ref dn, .ref df, .ref di, .ref dl, .ref dm, .int (zI ((nc : Nat) : Int)), .int (zI (((q + 2) : Nat) : Int))])), (df, .inr (3, [.ref dfw])), (dfw, .inl (c 2, 4 * 255, .inr (.inl (lfw fw iw lw q (q + 1) nc)))), (di, .inr (3, [.ref diw])), (diw, .inl (c 2, 4 * 40, .inr (.inl (zor iw q iw (q + 1))))), (dl, .inr (3, [.ref dlw])), (dlw, .inl (c 2, 4 * 40, .inr (.inl (zor lw q lw (q + 1))))), (dm, .inl (c 1, 40, .inl (fun j => zB ((va_up mb q false) j))))] := hD
          refine lv_aload_n hx hb d_Dr_joinToRow_116 rfl (lv_at hl 2 rfl) ?_
          refine lv_iload_n hx hb d_Dr_joinToRow_117 rfl (lv_at hl 1 rfl) ?_
          refine va_put (D := D) (ci := 0) (v := .int (zI ((q + 1 : Nat) : Int))) (ty := .int) (C := R_Dr) (T := T_Dr) (N := 7) hx hb hts (fun w h => List.mem_cons_of_mem _ (inA_Dr w h)) ty_Dr tyok_Dr nm_Dr hown hK hP hD hS 0 rfl rfl 6 (by decide) (hw k_Dr_f34) (fun _ h9 => h9) rfl (by decide +kernel) rfl rfl (Nat.le_of_ble_eq_true rfl) d_Dr_joinToRow_118 (fun H locs hP hD hS => ?_)
          have hP : va_P D vwCl [(d, .inr (0, [.ref dn, .ref df, .ref di, .ref dl, .ref dm, .int (zI ((nc : Nat) : Int)), .int (zI ((q + 1 : Nat) : Int))])), (df, .inr (3, [.ref dfw])), (dfw, .inl (c 2, 4 * 255, .inr (.inl (lfw fw iw lw q (q + 1) nc)))), (di, .inr (3, [.ref diw])), (diw, .inl (c 2, 4 * 40, .inr (.inl (zor iw q iw (q + 1))))), (dl, .inr (3, [.ref dlw])), (dlw, .inl (c 2, 4 * 40, .inr (.inl (zor lw q lw (q + 1))))), (dm, .inl (c 1, 40, .inl (fun j => zB ((va_up mb q false) j))))] H := hP
          have hD : va_D A [(d, .inr (0, [.ref dn, .ref df, .ref di, .ref dl, .ref dm, .int (zI ((nc : Nat) : Int)), .int (zI ((q + 1 : Nat) : Int))])), (df, .inr (3, [.ref dfw])), (dfw, .inl (c 2, 4 * 255, .inr (.inl (lfw fw iw lw q (q + 1) nc)))), (di, .inr (3, [.ref diw])), (diw, .inl (c 2, 4 * 40, .inr (.inl (zor iw q iw (q + 1))))), (dl, .inr (3, [.ref dlw])), (dlw, .inl (c 2, 4 * 40, .inr (.inl (zor lw q lw (q + 1))))), (dm, .inl (c 1, 40, .inl (fun j => zB ((va_up mb q false) j))))] := hD
          refine lv_iconst (v := zI 1) hx hb d_Dr_joinToRow_121 (by decide) ?_
          subst hQ
          exact W.zret (ty := .boolean) (v := (zI 1)) hx hb hr (by decide) (fun t9 ht hW => ⟨⟨_, (), rfl, ⟨(by decide), trivial⟩, by show va_P _ _ _ t9.heap; rw [ht]; rw [jrI_T hc_41, jrL0_T hc_63, show (mb q && mb (q + 1)) = false by first | (simp [*]; done) | (exfalso; rw [hc_41] at hc_98; cases hc_98; done) | (exfalso; rw [hc_63] at hc_107; cases hc_107; done)]; exact hP⟩, hS.F ht⟩) hS.2.2 d_Dr_joinToRow_122
        · refine lv_iconst (v := zI 1) hx hb d_Dr_joinToRow_110 (by decide) ?_
          refine lv_goto (tgt := 115) hx hb d_Dr_joinToRow_111 (by decide) ?_
          refine z_top (v2 := .int (zB true)) (congrArg Value.int (by decide)) ?_
          refine z_zast hx hb hK hP hD hS 7 1 rfl rfl (q) (by omega) (by omega) (by omega) d_Dr_joinToRow_115 (fun H locs hP hD hS => ?_)
          have hP : va_P D vwCl [(d, .inr (0, [.ref dn, .ref df, .ref di, .ref dl, .ref dm, .int (zI ((nc : Nat) : Int)), .int (zI (((q + 2) : Nat) : Int))])), (df, .inr (3, [.ref dfw])), (dfw, .inl (c 2, 4 * 255, .inr (.inl (lfw fw iw lw q (q + 1) nc)))), (di, .inr (3, [.ref diw])), (diw, .inl (c 2, 4 * 40, .inr (.inl (zor iw q iw (q + 1))))), (dl, .inr (3, [.ref dlw])), (dlw, .inl (c 2, 4 * 40, .inr (.inl (zor lw q lw (q + 1))))), (dm, .inl (c 1, 40, .inl (fun j => zB ((va_up mb q true) j))))] H := hP
          have hD : va_D A [(d, .inr (0, [.ref dn, .ref df, .ref di, .ref dl, .ref dm, .int (zI ((nc : Nat) : Int)), .int (zI (((q + 2) : Nat) : Int))])), (df, .inr (3, [.ref dfw])), (dfw, .inl (c 2, 4 * 255, .inr (.inl (lfw fw iw lw q (q + 1) nc)))), (di, .inr (3, [.ref diw])), (diw, .inl (c 2, 4 * 40, .inr (.inl (zor iw q iw (q + 1))))), (dl, .inr (3, [.ref dlw])), (dlw, .inl (c 2, 4 * 40, .inr (.inl (zor lw q lw (q + 1))))), (dm, .inl (c 1, 40, .inl (fun j => zB ((va_up mb q true) j))))] := hD
          refine lv_aload_n hx hb d_Dr_joinToRow_116 rfl (lv_at hl 2 rfl) ?_
          refine lv_iload_n hx hb d_Dr_joinToRow_117 rfl (lv_at hl 1 rfl) ?_
          refine va_put (D := D) (ci := 0) (v := .int (zI ((q + 1 : Nat) : Int))) (ty := .int) (C := R_Dr) (T := T_Dr) (N := 7) hx hb hts (fun w h => List.mem_cons_of_mem _ (inA_Dr w h)) ty_Dr tyok_Dr nm_Dr hown hK hP hD hS 0 rfl rfl 6 (by decide) (hw k_Dr_f34) (fun _ h9 => h9) rfl (by decide +kernel) rfl rfl (Nat.le_of_ble_eq_true rfl) d_Dr_joinToRow_118 (fun H locs hP hD hS => ?_)
          have hP : va_P D vwCl [(d, .inr (0, [.ref dn, .ref df, .ref di, .ref dl, .ref dm, .int (zI ((nc : Nat) : Int)), .int (zI ((q + 1 : Nat) : Int))])), (df, .inr (3, [.ref dfw])), (dfw, .inl (c 2, 4 * 255, .inr (.inl (lfw fw iw lw q (q + 1) nc)))), (di, .inr (3, [.ref diw])), (diw, .inl (c 2, 4 * 40, .inr (.inl (zor iw q iw (q + 1))))), (dl, .inr (3, [.ref dlw])), (dlw, .inl (c 2, 4 * 40, .inr (.inl (zor lw q lw (q + 1))))), (dm, .inl (c 1, 40, .inl (fun j => zB ((va_up mb q true) j))))] H := hP
          have hD : va_D A [(d, .inr (0, [.ref dn, .ref df, .ref di, .ref dl, .ref dm, .int (zI ((nc : Nat) : Int)), .int (zI ((q + 1 : Nat) : Int))])), (df, .inr (3, [.ref dfw])), (dfw, .inl (c 2, 4 * 255, .inr (.inl (lfw fw iw lw q (q + 1) nc)))), (di, .inr (3, [.ref diw])), (diw, .inl (c 2, 4 * 40, .inr (.inl (zor iw q iw (q + 1))))), (dl, .inr (3, [.ref dlw])), (dlw, .inl (c 2, 4 * 40, .inr (.inl (zor lw q lw (q + 1))))), (dm, .inl (c 1, 40, .inl (fun j => zB ((va_up mb q true) j))))] := hD
          refine lv_iconst (v := zI 1) hx hb d_Dr_joinToRow_121 (by decide) ?_
          subst hQ
          exact W.zret (ty := .boolean) (v := (zI 1)) hx hb hr (by decide) (fun t9 ht hW => ⟨⟨_, (), rfl, ⟨(by decide), trivial⟩, by show va_P _ _ _ t9.heap; rw [ht]; rw [jrI_T hc_41, jrL0_T hc_63, show (mb q && mb (q + 1)) = true by first | (simp [*]; done) | (exfalso; rw [hc_41] at hc_98; cases hc_98; done) | (exfalso; rw [hc_63] at hc_107; cases hc_107; done)]; exact hP⟩, hS.F ht⟩) hS.2.2 d_Dr_joinToRow_122
    · refine lv_aload_n hx hb d_Dr_joinToRow_66 rfl (lv_at hl 2 rfl) ?_
      refine va_get (D := D) (ci := 0) (v := .ref dl) (C := R_Dr) (T := T_Dr) (N := 7) hx hb hts (fun w h => List.mem_cons_of_mem _ (inA_Dr w h)) hown hK hP 0 rfl rfl 3 (by decide) (hw k_Dr_f27) (fun _ h9 => h9) rfl d_Dr_joinToRow_67 ?_
      refine lv_iload_n hx hb d_Dr_joinToRow_70 rfl (lv_at hl 0 rfl) ?_
      have hPc : va_P D vwCl [(dl, .inr (3, [.ref dlw])), (dlw, .inl (c 2, 4 * 40, .inr (.inl lw)))] H := hP.sub (ws' := [(dl, .inr (3, [.ref dlw])), (dlw, .inl (c 2, 4 * 40, .inr (.inl lw)))]) [5, 6] rfl
      have hDc : va_D A [(dl, .inr (3, [.ref dlw])), (dlw, .inl (c 2, 4 * 40, .inr (.inl lw)))] := hD.sub (ws' := [(dl, .inr (3, [.ref dlw])), (dlw, .inl (c 2, 4 * 40, .inr (.inl lw)))]) [5, 6] (by decide) rfl
      have hDt : va_D (fun _ => True) [(dl, .inr (3, [.ref dlw])), (dlw, .inl (c 2, 4 * 40, .inr (.inl lw)))] := hDc.weaken (fun _ _ _ _ => trivial)
      refine z_callv (S := Unit) (w1 := fun u => [(dl, .inr (3, [.ref dlw])), (dlw, .inl (c 2, 4 * 40, .inr (.inl (zclr lw q))))]) (post := fun u => True) (wc := [(dl, .inr (3, [.ref dlw])), (dlw, .inl (c 2, 4 * 40, .inr (.inl lw)))]) [5, 6] rfl (fun _ => rfl) hP hD hS (va_runV (rm := rm_removeAll) (As := [.int (zI ((q : Nat) : Int))]) (rest := []) ⟨hx, hb, hml, hown, hts⟩ (c_removeAll l D c dl dlw 40 lw q (by omega) (by omega)) (cwV 1 hts (gWV k_Dr_m41 k_i_Se_removeAll k_v_Se_removeAll k_n_Se k_c_Se_removeAll) rfl rfl rfl (by decide +kernel) ⟨Nat.le_of_ble_eq_true rfl, Nat.le_of_ble_eq_true rfl⟩) ⟨zblindW, va_recv hK hPc (ci := 3) (q0 := 0) rfl rfl, fun U hU hW => ⟨rfl, ⟨by rw [hU]; exact hPc, hDt⟩, hKN.moved hW⟩⟩ rfl rfl hl.1 rfl (lv_room (Nat.le_of_ble_eq_true rfl)) d_Dr_joinToRow_71 ⟨Nat.zero_le _, Nat.zero_le _⟩) (fun u H locs hp_9 hP hD hS => ?_)
      have hP : va_P D vwCl [(d, .inr (0, [.ref dn, .ref df, .ref di, .ref dl, .ref dm, .int (zI ((nc : Nat) : Int)), .int (zI (((q + 2) : Nat) : Int))])), (df, .inr (3, [.ref dfw])), (dfw, .inl (c 2, 4 * 255, .inr (.inl (lfw fw iw lw q (q + 1) nc)))), (di, .inr (3, [.ref diw])), (diw, .inl (c 2, 4 * 40, .inr (.inl (zor iw q iw (q + 1))))), (dl, .inr (3, [.ref dlw])), (dlw, .inl (c 2, 4 * 40, .inr (.inl (zclr lw q)))), (dm, .inl (c 1, 40, .inl (fun j => zB (mb j))))] H := hP
      have hD : va_D A [(d, .inr (0, [.ref dn, .ref df, .ref di, .ref dl, .ref dm, .int (zI ((nc : Nat) : Int)), .int (zI (((q + 2) : Nat) : Int))])), (df, .inr (3, [.ref dfw])), (dfw, .inl (c 2, 4 * 255, .inr (.inl (lfw fw iw lw q (q + 1) nc)))), (di, .inr (3, [.ref diw])), (diw, .inl (c 2, 4 * 40, .inr (.inl (zor iw q iw (q + 1))))), (dl, .inr (3, [.ref dlw])), (dlw, .inl (c 2, 4 * 40, .inr (.inl (zclr lw q)))), (dm, .inl (c 1, 40, .inl (fun j => zB (mb j))))] := hD
      refine lv_aload_n hx hb d_Dr_joinToRow_74 rfl (lv_at hl 2 rfl) ?_
      refine va_get (D := D) (ci := 0) (v := .ref dl) (C := R_Dr) (T := T_Dr) (N := 7) hx hb hts (fun w h => List.mem_cons_of_mem _ (inA_Dr w h)) hown hK hP 0 rfl rfl 3 (by decide) (hw k_Dr_f27) (fun _ h9 => h9) rfl d_Dr_joinToRow_75 ?_
      refine lv_iload_n hx hb d_Dr_joinToRow_78 rfl (lv_at hl 0 rfl) ?_
      refine lv_aload_n hx hb d_Dr_joinToRow_79 rfl (lv_at hl 2 rfl) ?_
      refine va_get (D := D) (ci := 0) (v := .ref dl) (C := R_Dr) (T := T_Dr) (N := 7) hx hb hts (fun w h => List.mem_cons_of_mem _ (inA_Dr w h)) hown hK hP 0 rfl rfl 3 (by decide) (hw k_Dr_f27) (fun _ h9 => h9) rfl d_Dr_joinToRow_80 ?_
      refine lv_iload_n hx hb d_Dr_joinToRow_83 rfl (lv_at hl 1 rfl) ?_
      have hPc : va_P D vwCl [(dl, .inr (3, [.ref dlw])), (dlw, .inl (c 2, 4 * 40, .inr (.inl (zclr lw q))))] H := hP.sub (ws' := [(dl, .inr (3, [.ref dlw])), (dlw, .inl (c 2, 4 * 40, .inr (.inl (zclr lw q))))]) [5, 6] rfl
      have hDc : va_D A [(dl, .inr (3, [.ref dlw])), (dlw, .inl (c 2, 4 * 40, .inr (.inl (zclr lw q))))] := hD.sub (ws' := [(dl, .inr (3, [.ref dlw])), (dlw, .inl (c 2, 4 * 40, .inr (.inl (zclr lw q))))]) [5, 6] (by decide) rfl
      have hDt : va_D (fun _ => True) [(dl, .inr (3, [.ref dlw])), (dlw, .inl (c 2, 4 * 40, .inr (.inl (zclr lw q))))] := hDc.weaken (fun _ _ _ _ => trivial)
      refine z_callv (S := Unit) (w1 := fun u => [(dl, .inr (3, [.ref dlw])), (dlw, .inl (c 2, 4 * 40, .inr (.inl (zor (zclr lw q) q (zclr lw q) (q + 1)))))]) (post := fun u => True) (wc := [(dl, .inr (3, [.ref dlw])), (dlw, .inl (c 2, 4 * 40, .inr (.inl (zclr lw q))))]) [5, 6] rfl (fun _ => rfl) hP hD hS (va_runV (rm := rm_addSelf) (As := [.int (zI ((q : Nat) : Int)), .ref dl, .int (zI ((q + 1 : Nat) : Int))]) (rest := []) ⟨hx, hb, hml, hown, hts⟩ (c_addSelf l D c dl dlw 40 (zclr lw q) q (q + 1) (by omega) (by omega) (by omega)) (cwV 3 hts (gWV k_Dr_m55 k_i_Se_addAll k_v_Se_addAll k_n_Se k_c_Se_addAll) rfl rfl rfl (by decide +kernel) ⟨Nat.le_of_ble_eq_true rfl, Nat.le_of_ble_eq_true rfl⟩) ⟨zblindW, va_recv hK hPc (ci := 3) (q0 := 0) rfl rfl, fun U hU hW => ⟨rfl, ⟨by rw [hU]; exact hPc, hDt⟩, hKN.moved hW⟩⟩ rfl rfl hl.1 rfl (lv_room (Nat.le_of_ble_eq_true rfl)) d_Dr_joinToRow_84 ⟨Nat.zero_le _, Nat.zero_le _⟩) (fun u H locs hp_10 hP hD hS => ?_)
      have hP : va_P D vwCl [(d, .inr (0, [.ref dn, .ref df, .ref di, .ref dl, .ref dm, .int (zI ((nc : Nat) : Int)), .int (zI (((q + 2) : Nat) : Int))])), (df, .inr (3, [.ref dfw])), (dfw, .inl (c 2, 4 * 255, .inr (.inl (lfw fw iw lw q (q + 1) nc)))), (di, .inr (3, [.ref diw])), (diw, .inl (c 2, 4 * 40, .inr (.inl (zor iw q iw (q + 1))))), (dl, .inr (3, [.ref dlw])), (dlw, .inl (c 2, 4 * 40, .inr (.inl (zor (zclr lw q) q (zclr lw q) (q + 1))))), (dm, .inl (c 1, 40, .inl (fun j => zB (mb j))))] H := hP
      have hD : va_D A [(d, .inr (0, [.ref dn, .ref df, .ref di, .ref dl, .ref dm, .int (zI ((nc : Nat) : Int)), .int (zI (((q + 2) : Nat) : Int))])), (df, .inr (3, [.ref dfw])), (dfw, .inl (c 2, 4 * 255, .inr (.inl (lfw fw iw lw q (q + 1) nc)))), (di, .inr (3, [.ref diw])), (diw, .inl (c 2, 4 * 40, .inr (.inl (zor iw q iw (q + 1))))), (dl, .inr (3, [.ref dlw])), (dlw, .inl (c 2, 4 * 40, .inr (.inl (zor (zclr lw q) q (zclr lw q) (q + 1))))), (dm, .inl (c 1, 40, .inl (fun j => zB (mb j))))] := hD
      refine lv_aload_n hx hb d_Dr_joinToRow_87 rfl (lv_at hl 2 rfl) ?_
      refine va_get (D := D) (ci := 0) (v := .ref dm) (C := R_Dr) (T := T_Dr) (N := 7) hx hb hts (fun w h => List.mem_cons_of_mem _ (inA_Dr w h)) hown hK hP 0 rfl rfl 4 (by decide) (hw k_Dr_f30) (fun _ h9 => h9) rfl d_Dr_joinToRow_88 ?_
      refine lv_iload_n hx hb d_Dr_joinToRow_91 rfl (lv_at hl 0 rfl) ?_
      refine lv_aload_n hx hb d_Dr_joinToRow_92 rfl (lv_at hl 2 rfl) ?_
      refine va_get (D := D) (ci := 0) (v := .ref dm) (C := R_Dr) (T := T_Dr) (N := 7) hx hb hts (fun w h => List.mem_cons_of_mem _ (inA_Dr w h)) hown hK hP 0 rfl rfl 4 (by decide) (hw k_Dr_f30) (fun _ h9 => h9) rfl d_Dr_joinToRow_93 ?_
      refine lv_iload_n hx hb d_Dr_joinToRow_96 rfl (lv_at hl 0 rfl) ?_
      refine z_zald hx hb hK hP 7 1 rfl rfl (q) (by omega) (by omega) (by omega) d_Dr_joinToRow_97 ?_
      refine z_ifeq_B (tgt := 114) hx hb d_Dr_joinToRow_98 (by decide) (fun hc_98 => ?_) (fun hc_98 => ?_)
      · refine lv_iconst (v := zI 0) hx hb d_Dr_joinToRow_114 (by decide) ?_
        refine z_top (v2 := .int (zB false)) (congrArg Value.int (by decide)) ?_
        refine z_zast hx hb hK hP hD hS 7 1 rfl rfl (q) (by omega) (by omega) (by omega) d_Dr_joinToRow_115 (fun H locs hP hD hS => ?_)
        have hP : va_P D vwCl [(d, .inr (0, [.ref dn, .ref df, .ref di, .ref dl, .ref dm, .int (zI ((nc : Nat) : Int)), .int (zI (((q + 2) : Nat) : Int))])), (df, .inr (3, [.ref dfw])), (dfw, .inl (c 2, 4 * 255, .inr (.inl (lfw fw iw lw q (q + 1) nc)))), (di, .inr (3, [.ref diw])), (diw, .inl (c 2, 4 * 40, .inr (.inl (zor iw q iw (q + 1))))), (dl, .inr (3, [.ref dlw])), (dlw, .inl (c 2, 4 * 40, .inr (.inl (zor (zclr lw q) q (zclr lw q) (q + 1))))), (dm, .inl (c 1, 40, .inl (fun j => zB ((va_up mb q false) j))))] H := hP
        have hD : va_D A [(d, .inr (0, [.ref dn, .ref df, .ref di, .ref dl, .ref dm, .int (zI ((nc : Nat) : Int)), .int (zI (((q + 2) : Nat) : Int))])), (df, .inr (3, [.ref dfw])), (dfw, .inl (c 2, 4 * 255, .inr (.inl (lfw fw iw lw q (q + 1) nc)))), (di, .inr (3, [.ref diw])), (diw, .inl (c 2, 4 * 40, .inr (.inl (zor iw q iw (q + 1))))), (dl, .inr (3, [.ref dlw])), (dlw, .inl (c 2, 4 * 40, .inr (.inl (zor (zclr lw q) q (zclr lw q) (q + 1))))), (dm, .inl (c 1, 40, .inl (fun j => zB ((va_up mb q false) j))))] := hD
        refine lv_aload_n hx hb d_Dr_joinToRow_116 rfl (lv_at hl 2 rfl) ?_
        refine lv_iload_n hx hb d_Dr_joinToRow_117 rfl (lv_at hl 1 rfl) ?_
        refine va_put (D := D) (ci := 0) (v := .int (zI ((q + 1 : Nat) : Int))) (ty := .int) (C := R_Dr) (T := T_Dr) (N := 7) hx hb hts (fun w h => List.mem_cons_of_mem _ (inA_Dr w h)) ty_Dr tyok_Dr nm_Dr hown hK hP hD hS 0 rfl rfl 6 (by decide) (hw k_Dr_f34) (fun _ h9 => h9) rfl (by decide +kernel) rfl rfl (Nat.le_of_ble_eq_true rfl) d_Dr_joinToRow_118 (fun H locs hP hD hS => ?_)
        have hP : va_P D vwCl [(d, .inr (0, [.ref dn, .ref df, .ref di, .ref dl, .ref dm, .int (zI ((nc : Nat) : Int)), .int (zI ((q + 1 : Nat) : Int))])), (df, .inr (3, [.ref dfw])), (dfw, .inl (c 2, 4 * 255, .inr (.inl (lfw fw iw lw q (q + 1) nc)))), (di, .inr (3, [.ref diw])), (diw, .inl (c 2, 4 * 40, .inr (.inl (zor iw q iw (q + 1))))), (dl, .inr (3, [.ref dlw])), (dlw, .inl (c 2, 4 * 40, .inr (.inl (zor (zclr lw q) q (zclr lw q) (q + 1))))), (dm, .inl (c 1, 40, .inl (fun j => zB ((va_up mb q false) j))))] H := hP
        have hD : va_D A [(d, .inr (0, [.ref dn, .ref df, .ref di, .ref dl, .ref dm, .int (zI ((nc : Nat) : Int)), .int (zI ((q + 1 : Nat) : Int))])), (df, .inr (3, [.ref dfw])), (dfw, .inl (c 2, 4 * 255, .inr (.inl (lfw fw iw lw q (q + 1) nc)))), (di, .inr (3, [.ref diw])), (diw, .inl (c 2, 4 * 40, .inr (.inl (zor iw q iw (q + 1))))), (dl, .inr (3, [.ref dlw])), (dlw, .inl (c 2, 4 * 40, .inr (.inl (zor (zclr lw q) q (zclr lw q) (q + 1))))), (dm, .inl (c 1, 40, .inl (fun j => zB ((va_up mb q false) j))))] := hD
        refine lv_iconst (v := zI 1) hx hb d_Dr_joinToRow_121 (by decide) ?_
        subst hQ
        exact W.zret (ty := .boolean) (v := (zI 1)) hx hb hr (by decide) (fun t9 ht hW => ⟨⟨_, (), rfl, ⟨(by decide), trivial⟩, by show va_P _ _ _ t9.heap; rw [ht]; rw [jrI_T hc_41, jrL0_F hc_63, show (mb q && mb (q + 1)) = false by first | (simp [*]; done) | (exfalso; rw [hc_41] at hc_98; cases hc_98; done) | (exfalso; rw [hc_63] at hc_107; cases hc_107; done)]; exact hP⟩, hS.F ht⟩) hS.2.2 d_Dr_joinToRow_122
      · refine lv_aload_n hx hb d_Dr_joinToRow_101 rfl (lv_at hl 2 rfl) ?_
        refine va_get (D := D) (ci := 0) (v := .ref dm) (C := R_Dr) (T := T_Dr) (N := 7) hx hb hts (fun w h => List.mem_cons_of_mem _ (inA_Dr w h)) hown hK hP 0 rfl rfl 4 (by decide) (hw k_Dr_f30) (fun _ h9 => h9) rfl d_Dr_joinToRow_102 ?_
        refine lv_iload_n hx hb d_Dr_joinToRow_105 rfl (lv_at hl 1 rfl) ?_
        refine z_zald hx hb hK hP 7 1 rfl rfl (q + 1) (by omega) (by omega) (by omega) d_Dr_joinToRow_106 ?_
        refine z_ifeq_B (tgt := 114) hx hb d_Dr_joinToRow_107 (by decide) (fun hc_107 => ?_) (fun hc_107 => ?_)
        · refine lv_iconst (v := zI 0) hx hb d_Dr_joinToRow_114 (by decide) ?_
          refine z_top (v2 := .int (zB false)) (congrArg Value.int (by decide)) ?_
          refine z_zast hx hb hK hP hD hS 7 1 rfl rfl (q) (by omega) (by omega) (by omega) d_Dr_joinToRow_115 (fun H locs hP hD hS => ?_)
          have hP : va_P D vwCl [(d, .inr (0, [.ref dn, .ref df, .ref di, .ref dl, .ref dm, .int (zI ((nc : Nat) : Int)), .int (zI (((q + 2) : Nat) : Int))])), (df, .inr (3, [.ref dfw])), (dfw, .inl (c 2, 4 * 255, .inr (.inl (lfw fw iw lw q (q + 1) nc)))), (di, .inr (3, [.ref diw])), (diw, .inl (c 2, 4 * 40, .inr (.inl (zor iw q iw (q + 1))))), (dl, .inr (3, [.ref dlw])), (dlw, .inl (c 2, 4 * 40, .inr (.inl (zor (zclr lw q) q (zclr lw q) (q + 1))))), (dm, .inl (c 1, 40, .inl (fun j => zB ((va_up mb q false) j))))] H := hP
          have hD : va_D A [(d, .inr (0, [.ref dn, .ref df, .ref di, .ref dl, .ref dm, .int (zI ((nc : Nat) : Int)), .int (zI (((q + 2) : Nat) : Int))])), (df, .inr (3, [.ref dfw])), (dfw, .inl (c 2, 4 * 255, .inr (.inl (lfw fw iw lw q (q + 1) nc)))), (di, .inr (3, [.ref diw])), (diw, .inl (c 2, 4 * 40, .inr (.inl (zor iw q iw (q + 1))))), (dl, .inr (3, [.ref dlw])), (dlw, .inl (c 2, 4 * 40, .inr (.inl (zor (zclr lw q) q (zclr lw q) (q + 1))))), (dm, .inl (c 1, 40, .inl (fun j => zB ((va_up mb q false) j))))] := hD
          refine lv_aload_n hx hb d_Dr_joinToRow_116 rfl (lv_at hl 2 rfl) ?_
          refine lv_iload_n hx hb d_Dr_joinToRow_117 rfl (lv_at hl 1 rfl) ?_
          refine va_put (D := D) (ci := 0) (v := .int (zI ((q + 1 : Nat) : Int))) (ty := .int) (C := R_Dr) (T := T_Dr) (N := 7) hx hb hts (fun w h => List.mem_cons_of_mem _ (inA_Dr w h)) ty_Dr tyok_Dr nm_Dr hown hK hP hD hS 0 rfl rfl 6 (by decide) (hw k_Dr_f34) (fun _ h9 => h9) rfl (by decide +kernel) rfl rfl (Nat.le_of_ble_eq_true rfl) d_Dr_joinToRow_118 (fun H locs hP hD hS => ?_)
          have hP : va_P D vwCl [(d, .inr (0, [.ref dn, .ref df, .ref di, .ref dl, .ref dm, .int (zI ((nc : Nat) : Int)), .int (zI ((q + 1 : Nat) : Int))])), (df, .inr (3, [.ref dfw])), (dfw, .inl (c 2, 4 * 255, .inr (.inl (lfw fw iw lw q (q + 1) nc)))), (di, .inr (3, [.ref diw])), (diw, .inl (c 2, 4 * 40, .inr (.inl (zor iw q iw (q + 1))))), (dl, .inr (3, [.ref dlw])), (dlw, .inl (c 2, 4 * 40, .inr (.inl (zor (zclr lw q) q (zclr lw q) (q + 1))))), (dm, .inl (c 1, 40, .inl (fun j => zB ((va_up mb q false) j))))] H := hP
          have hD : va_D A [(d, .inr (0, [.ref dn, .ref df, .ref di, .ref dl, .ref dm, .int (zI ((nc : Nat) : Int)), .int (zI ((q + 1 : Nat) : Int))])), (df, .inr (3, [.ref dfw])), (dfw, .inl (c 2, 4 * 255, .inr (.inl (lfw fw iw lw q (q + 1) nc)))), (di, .inr (3, [.ref diw])), (diw, .inl (c 2, 4 * 40, .inr (.inl (zor iw q iw (q + 1))))), (dl, .inr (3, [.ref dlw])), (dlw, .inl (c 2, 4 * 40, .inr (.inl (zor (zclr lw q) q (zclr lw q) (q + 1))))), (dm, .inl (c 1, 40, .inl (fun j => zB ((va_up mb q false) j))))] := hD
          refine lv_iconst (v := zI 1) hx hb d_Dr_joinToRow_121 (by decide) ?_
          subst hQ
          exact W.zret (ty := .boolean) (v := (zI 1)) hx hb hr (by decide) (fun t9 ht hW => ⟨⟨_, (), rfl, ⟨(by decide), trivial⟩, by show va_P _ _ _ t9.heap; rw [ht]; rw [jrI_T hc_41, jrL0_F hc_63, show (mb q && mb (q + 1)) = false by first | (simp [*]; done) | (exfalso; rw [hc_41] at hc_98; cases hc_98; done) | (exfalso; rw [hc_63] at hc_107; cases hc_107; done)]; exact hP⟩, hS.F ht⟩) hS.2.2 d_Dr_joinToRow_122
        · refine lv_iconst (v := zI 1) hx hb d_Dr_joinToRow_110 (by decide) ?_
          refine lv_goto (tgt := 115) hx hb d_Dr_joinToRow_111 (by decide) ?_
          refine z_top (v2 := .int (zB true)) (congrArg Value.int (by decide)) ?_
          refine z_zast hx hb hK hP hD hS 7 1 rfl rfl (q) (by omega) (by omega) (by omega) d_Dr_joinToRow_115 (fun H locs hP hD hS => ?_)
          have hP : va_P D vwCl [(d, .inr (0, [.ref dn, .ref df, .ref di, .ref dl, .ref dm, .int (zI ((nc : Nat) : Int)), .int (zI (((q + 2) : Nat) : Int))])), (df, .inr (3, [.ref dfw])), (dfw, .inl (c 2, 4 * 255, .inr (.inl (lfw fw iw lw q (q + 1) nc)))), (di, .inr (3, [.ref diw])), (diw, .inl (c 2, 4 * 40, .inr (.inl (zor iw q iw (q + 1))))), (dl, .inr (3, [.ref dlw])), (dlw, .inl (c 2, 4 * 40, .inr (.inl (zor (zclr lw q) q (zclr lw q) (q + 1))))), (dm, .inl (c 1, 40, .inl (fun j => zB ((va_up mb q true) j))))] H := hP
          have hD : va_D A [(d, .inr (0, [.ref dn, .ref df, .ref di, .ref dl, .ref dm, .int (zI ((nc : Nat) : Int)), .int (zI (((q + 2) : Nat) : Int))])), (df, .inr (3, [.ref dfw])), (dfw, .inl (c 2, 4 * 255, .inr (.inl (lfw fw iw lw q (q + 1) nc)))), (di, .inr (3, [.ref diw])), (diw, .inl (c 2, 4 * 40, .inr (.inl (zor iw q iw (q + 1))))), (dl, .inr (3, [.ref dlw])), (dlw, .inl (c 2, 4 * 40, .inr (.inl (zor (zclr lw q) q (zclr lw q) (q + 1))))), (dm, .inl (c 1, 40, .inl (fun j => zB ((va_up mb q true) j))))] := hD
          refine lv_aload_n hx hb d_Dr_joinToRow_116 rfl (lv_at hl 2 rfl) ?_
          refine lv_iload_n hx hb d_Dr_joinToRow_117 rfl (lv_at hl 1 rfl) ?_
          refine va_put (D := D) (ci := 0) (v := .int (zI ((q + 1 : Nat) : Int))) (ty := .int) (C := R_Dr) (T := T_Dr) (N := 7) hx hb hts (fun w h => List.mem_cons_of_mem _ (inA_Dr w h)) ty_Dr tyok_Dr nm_Dr hown hK hP hD hS 0 rfl rfl 6 (by decide) (hw k_Dr_f34) (fun _ h9 => h9) rfl (by decide +kernel) rfl rfl (Nat.le_of_ble_eq_true rfl) d_Dr_joinToRow_118 (fun H locs hP hD hS => ?_)
          have hP : va_P D vwCl [(d, .inr (0, [.ref dn, .ref df, .ref di, .ref dl, .ref dm, .int (zI ((nc : Nat) : Int)), .int (zI ((q + 1 : Nat) : Int))])), (df, .inr (3, [.ref dfw])), (dfw, .inl (c 2, 4 * 255, .inr (.inl (lfw fw iw lw q (q + 1) nc)))), (di, .inr (3, [.ref diw])), (diw, .inl (c 2, 4 * 40, .inr (.inl (zor iw q iw (q + 1))))), (dl, .inr (3, [.ref dlw])), (dlw, .inl (c 2, 4 * 40, .inr (.inl (zor (zclr lw q) q (zclr lw q) (q + 1))))), (dm, .inl (c 1, 40, .inl (fun j => zB ((va_up mb q true) j))))] H := hP
          have hD : va_D A [(d, .inr (0, [.ref dn, .ref df, .ref di, .ref dl, .ref dm, .int (zI ((nc : Nat) : Int)), .int (zI ((q + 1 : Nat) : Int))])), (df, .inr (3, [.ref dfw])), (dfw, .inl (c 2, 4 * 255, .inr (.inl (lfw fw iw lw q (q + 1) nc)))), (di, .inr (3, [.ref diw])), (diw, .inl (c 2, 4 * 40, .inr (.inl (zor iw q iw (q + 1))))), (dl, .inr (3, [.ref dlw])), (dlw, .inl (c 2, 4 * 40, .inr (.inl (zor (zclr lw q) q (zclr lw q) (q + 1))))), (dm, .inl (c 1, 40, .inl (fun j => zB ((va_up mb q true) j))))] := hD
          refine lv_iconst (v := zI 1) hx hb d_Dr_joinToRow_121 (by decide) ?_
          subst hQ
          exact W.zret (ty := .boolean) (v := (zI 1)) hx hb hr (by decide) (fun t9 ht hW => ⟨⟨_, (), rfl, ⟨(by decide), trivial⟩, by show va_P _ _ _ t9.heap; rw [ht]; rw [jrI_T hc_41, jrL0_F hc_63, show (mb q && mb (q + 1)) = true by first | (simp [*]; done) | (exfalso; rw [hc_41] at hc_98; cases hc_98; done) | (exfalso; rw [hc_63] at hc_107; cases hc_107; done)]; exact hP⟩, hS.F ht⟩) hS.2.2 d_Dr_joinToRow_122

def rm_joinToChoice : Room := { frames := 2, cells := 0, slots := 0, locals := 45 }
set_option maxHeartbeats 4000000 in
set_option maxRecDepth 100000 in
/-- Draft.joinToChoice -/
theorem c_joinToChoice (l : Launch) (D : va_G) (c : Nat → ClassId) (d : Nat) (dn : Nat) (df : Nat) (dfw : Nat) (di : Nat) (diw : Nat) (dl : Nat) (dlw : Nat) (dm : Nat) (nm : Nat → Nat) (fw : Nat → Int64) (iw : Nat → Int64) (lw : Nat → Int64) (mb : Nat → Bool) (nc : Nat) (q : Nat) (hp : q + 2 ≤ 40) : Met l y_Dr_joinToChoice w_Dr_joinToChoice rm_joinToChoice (va_Pc [.ref d] (fun U => (va_P D vwCl [(d, .inr (0, [.ref dn, .ref df, .ref di, .ref dl, .ref dm, .int (zI ((nc : Nat) : Int)), .int (zI ((q + 2 : Nat) : Int))])), (di, .inr (3, [.ref diw])), (diw, .inl (c 2, 4 * 40, .inr (.inl iw))), (dl, .inr (3, [.ref dlw])), (dlw, .inl (c 2, 4 * 40, .inr (.inl lw))), (dm, .inl (c 1, 40, .inl (fun j => zB (mb j))))] U.heap ∧ va_D (fun _ => True) [(d, .inr (0, [.ref dn, .ref df, .ref di, .ref dl, .ref dm, .int (zI ((nc : Nat) : Int)), .int (zI ((q + 2 : Nat) : Int))])), (di, .inr (3, [.ref diw])), (diw, .inl (c 2, 4 * 40, .inr (.inl iw))), (dl, .inr (3, [.ref dlw])), (dlw, .inl (c 2, 4 * 40, .inr (.inl lw))), (dm, .inl (c 1, 40, .inl (fun j => zB (mb j))))]) ∧ zK D c U)) (va_Qi (fun (r : Int32) (u : Unit) => r = (zB true) ∧ True) (fun (u : Unit) t9 => va_P D vwCl [(d, .inr (0, [.ref dn, .ref df, .ref di, .ref dl, .ref dm, .int (zI ((nc : Nat) : Int)), .int (zI ((q + 1 : Nat) : Int))])), (di, .inr (3, [.ref diw])), (diw, .inl (c 2, 4 * 40, .inr (.inl (zor iw q iw (q + 1))))), (dl, .inr (3, [.ref dlw])), (dlw, .inl (c 2, 4 * 40, .inr (.inl (zor lw q lw (q + 1))))), (dm, .inl (c 1, 40, .inl (fun j => zB ((va_up mb q (mb q || mb (q + 1))) j))))] t9.heap) (zA [(d, .inr (0, [.ref dn, .ref df, .ref di, .ref dl, .ref dm, .int (zI ((nc : Nat) : Int)), .int (zI ((q + 2 : Nat) : Int))])), (di, .inr (3, [.ref diw])), (diw, .inl (c 2, 4 * 40, .inr (.inl iw))), (dl, .inr (3, [.ref dlw])), (dlw, .inl (c 2, 4 * 40, .inr (.inl lw))), (dm, .inl (c 1, 40, .inl (fun j => zB (mb j))))])) 0 0 (zA [(d, .inr (0, [.ref dn, .ref df, .ref di, .ref dl, .ref dm, .int (zI ((nc : Nat) : Int)), .int (zI ((q + 2 : Nat) : Int))])), (di, .inr (3, [.ref diw])), (diw, .inl (c 2, 4 * 40, .inr (.inl iw))), (dl, .inr (3, [.ref dlw])), (dlw, .inl (c 2, 4 * 40, .inr (.inl lw))), (dm, .inl (c 1, 40, .inl (fun j => zB (mb j))))]) := by
  refine Met.ofW (cc := b_Dr_joinToChoice) (maxL := 3) (ret := (some .boolean)) (by decide) rfl ?_
  intro p e s m args below meth c0 s₁ B hml hv
  obtain ⟨rfl, ⟨hP, hD0⟩, hKN⟩ := hv
  have hK := hKN.1
  have hN := hKN.2
  have hx := B.exec
  have hb := B.bytes
  have hr := B.returns
  have hts := atoms_spec (ws := w_Dr_joinToChoice) B.pre
  have hw : ∀ {w : Cond}, w ∈ ALLW → w.before _ s = true := fun h => hts _ (List.mem_cons_of_mem _ h)
  have hown : s.vm.findClass R_Dr = some m.cls := findClass_of_methodNamed B.named
  have hlocks := B.notSynchronized
  have hD : va_D (zA [(d, .inr (0, [.ref dn, .ref df, .ref di, .ref dl, .ref dm, .int (zI ((nc : Nat) : Int)), .int (zI ((q + 2 : Nat) : Int))])), (di, .inr (3, [.ref diw])), (diw, .inl (c 2, 4 * 40, .inr (.inl iw))), (dl, .inr (3, [.ref dlw])), (dlw, .inl (c 2, 4 * 40, .inr (.inl lw))), (dm, .inl (c 1, 40, .inl (fun j => zB (mb j))))]) [(d, .inr (0, [.ref dn, .ref df, .ref di, .ref dl, .ref dm, .int (zI ((nc : Nat) : Int)), .int (zI ((q + 2 : Nat) : Int))])), (di, .inr (3, [.ref diw])), (diw, .inl (c 2, 4 * 40, .inr (.inl iw))), (dl, .inr (3, [.ref dlw])), (dlw, .inl (c 2, 4 * 40, .inr (.inl lw))), (dm, .inl (c 1, 40, .inl (fun j => zB (mb j))))] := ⟨hD0.1, fun k q h => List.mem_map.mpr ⟨q, List.mem_of_getElem? h, rfl⟩⟩
  generalize hAe : zA [(d, .inr (0, [.ref dn, .ref df, .ref di, .ref dl, .ref dm, .int (zI ((nc : Nat) : Int)), .int (zI ((q + 2 : Nat) : Int))])), (di, .inr (3, [.ref diw])), (diw, .inl (c 2, 4 * 40, .inr (.inl iw))), (dl, .inr (3, [.ref dlw])), (dlw, .inl (c 2, 4 * 40, .inr (.inl lw))), (dm, .inl (c 1, 40, .inl (fun j => zB (mb j))))] = A at hD ⊢
  have hS : va_S A s.heap s.heap [] := va_S.rf
  have hP : va_P D vwCl [(d, .inr (0, [.ref dn, .ref df, .ref di, .ref dl, .ref dm, .int (zI ((nc : Nat) : Int)), .int (zI ((q + 2 : Nat) : Int))])), (di, .inr (3, [.ref diw])), (diw, .inl (c 2, 4 * 40, .inr (.inl iw))), (dl, .inr (3, [.ref dlw])), (dlw, .inl (c 2, 4 * 40, .inr (.inl lw))), (dm, .inl (c 1, 40, .inl (fun j => zB (mb j))))] s.heap := hP
  have hl := lv_entry ([.ref d]) (n := 3) (Nat.le_of_ble_eq_true rfl)
  rw [lg_entry_eq]
  generalize (lg_sl ([.ref d]) ++ List.replicate (3 - (lg_sl ([.ref d])).length) Slot.unset).toArray = ls at hl ⊢
  have hl : lv_has ls 3 [(0, .ref d)] := hl
  generalize hQ : MQ below _ _ _ _ _ _ = Q
  refine lv_aload_n hx hb d_Dr_joinToChoice_0 rfl (lv_at hl 0 rfl) ?_
  refine va_get (D := D) (ci := 0) (v := .int (zI ((q + 2 : Nat) : Int))) (C := R_Dr) (T := T_Dr) (N := 7) hx hb hts (fun w h => List.mem_cons_of_mem _ (inA_Dr w h)) hown hK hP 0 rfl rfl 6 (by decide) (hw k_Dr_f34) (fun _ h9 => h9) rfl d_Dr_joinToChoice_1 ?_
  refine lv_iconst (v := zI 1) hx hb d_Dr_joinToChoice_4 (by decide) ?_
  refine z_isub hx hb d_Dr_joinToChoice_5 ?_
  refine z_top (v2 := .int (zI ((q + 1 : Nat) : Int))) (congrArg Value.int (congrArg zI (by omega))) ?_
  refine lv_istore_n (lv' := [(1, .int (zI ((q + 1 : Nat) : Int))), (0, .ref d)]) hx hb d_Dr_joinToChoice_6 rfl hl (by decide) rfl (fun ls hl => ?_)
  refine lv_iload_n hx hb d_Dr_joinToChoice_7 rfl (lv_at hl 0 rfl) ?_
  refine lv_iconst (v := zI 1) hx hb d_Dr_joinToChoice_8 (by decide) ?_
  refine z_isub hx hb d_Dr_joinToChoice_9 ?_
  refine z_top (v2 := .int (zI ((q : Nat) : Int))) (congrArg Value.int (congrArg zI (by omega))) ?_
  refine lv_istore_n (lv' := [(2, .int (zI ((q : Nat) : Int))), (1, .int (zI ((q + 1 : Nat) : Int))), (0, .ref d)]) hx hb d_Dr_joinToChoice_10 rfl hl (by decide) rfl (fun ls hl => ?_)
  refine lv_aload_n hx hb d_Dr_joinToChoice_11 rfl (lv_at hl 2 rfl) ?_
  refine lv_iload_n hx hb d_Dr_joinToChoice_12 rfl (lv_at hl 0 rfl) ?_
  have hPc : va_P D vwCl [(d, .inr (0, [.ref dn, .ref df, .ref di, .ref dl, .ref dm, .int (zI ((nc : Nat) : Int)), .int (zI (((q + 2) : Nat) : Int))])), (dm, .inl (c 1, 40, .inl (fun j => zB (mb j))))] s.heap := hP.sub (ws' := [(d, .inr (0, [.ref dn, .ref df, .ref di, .ref dl, .ref dm, .int (zI ((nc : Nat) : Int)), .int (zI (((q + 2) : Nat) : Int))])), (dm, .inl (c 1, 40, .inl (fun j => zB (mb j))))]) [0, 5] rfl
  refine vp_callSi (va_runV (rm := rm_hasPart) (As := [.int (zI ((q : Nat) : Int))]) (rest := []) ⟨hx, hb, hml, hown, hts⟩ (c_hasPart l D c d dn df dfw di diw dl dlw dm nm fw iw lw mb nc (q + 2) ((q : Nat) : Int) (by omega) (by omega)) (cwV 1 hts (gWV k_Dr_m48 k_i_Dr_hasPart k_v_Dr_hasPart k_n_Dr k_c_Dr_hasPart) rfl rfl rfl (by decide +kernel) ⟨Nat.le_of_ble_eq_true rfl, Nat.le_of_ble_eq_true rfl⟩) ⟨zblind, va_recv hK hPc (ci := 0) (q0 := 0) rfl rfl, fun U hU hW => ⟨rfl, by rw [hU]; exact hPc, hKN.moved hW⟩⟩ rfl rfl hl.1 rfl (lv_room (Nat.le_of_ble_eq_true rfl)) d_Dr_joinToChoice_13 ⟨Nat.zero_le _, Nat.zero_le _⟩).run (fun r hr_1 => ?_)
  subst hr_1
  refine z_ifeq_B (tgt := 27) hx hb d_Dr_joinToChoice_16 (by decide) (fun hc_16 => (absurd hc_16 (by rw [decide_eq_true (by omega)]; decide))) (fun hc_16 => ?_)
  refine lv_aload_n hx hb d_Dr_joinToChoice_19 rfl (lv_at hl 2 rfl) ?_
  refine lv_iload_n hx hb d_Dr_joinToChoice_20 rfl (lv_at hl 1 rfl) ?_
  have hPc : va_P D vwCl [(d, .inr (0, [.ref dn, .ref df, .ref di, .ref dl, .ref dm, .int (zI ((nc : Nat) : Int)), .int (zI (((q + 2) : Nat) : Int))])), (dm, .inl (c 1, 40, .inl (fun j => zB (mb j))))] s.heap := hP.sub (ws' := [(d, .inr (0, [.ref dn, .ref df, .ref di, .ref dl, .ref dm, .int (zI ((nc : Nat) : Int)), .int (zI (((q + 2) : Nat) : Int))])), (dm, .inl (c 1, 40, .inl (fun j => zB (mb j))))]) [0, 5] rfl
  refine vp_callSi (va_runV (rm := rm_hasPart) (As := [.int (zI ((q + 1 : Nat) : Int))]) (rest := []) ⟨hx, hb, hml, hown, hts⟩ (c_hasPart l D c d dn df dfw di diw dl dlw dm nm fw iw lw mb nc (q + 2) ((q + 1 : Nat) : Int) (by omega) (by omega)) (cwV 1 hts (gWV k_Dr_m48 k_i_Dr_hasPart k_v_Dr_hasPart k_n_Dr k_c_Dr_hasPart) rfl rfl rfl (by decide +kernel) ⟨Nat.le_of_ble_eq_true rfl, Nat.le_of_ble_eq_true rfl⟩) ⟨zblind, va_recv hK hPc (ci := 0) (q0 := 0) rfl rfl, fun U hU hW => ⟨rfl, by rw [hU]; exact hPc, hKN.moved hW⟩⟩ rfl rfl hl.1 rfl (lv_room (Nat.le_of_ble_eq_true rfl)) d_Dr_joinToChoice_21 ⟨Nat.zero_le _, Nat.zero_le _⟩).run (fun r hr_2 => ?_)
  subst hr_2
  refine z_ifne_B (tgt := 29) hx hb d_Dr_joinToChoice_24 (by decide) (fun hc_24 => ?_) (fun hc_24 => (absurd hc_24 (by rw [decide_eq_true (by omega)]; decide)))
  refine lv_aload_n hx hb d_Dr_joinToChoice_29 rfl (lv_at hl 2 rfl) ?_
  refine va_get (D := D) (ci := 0) (v := .ref di) (C := R_Dr) (T := T_Dr) (N := 7) hx hb hts (fun w h => List.mem_cons_of_mem _ (inA_Dr w h)) hown hK hP 0 rfl rfl 2 (by decide) (hw k_Dr_f24) (fun _ h9 => h9) rfl d_Dr_joinToChoice_30 ?_
  refine lv_iload_n hx hb d_Dr_joinToChoice_33 rfl (lv_at hl 0 rfl) ?_
  refine lv_aload_n hx hb d_Dr_joinToChoice_34 rfl (lv_at hl 2 rfl) ?_
  refine va_get (D := D) (ci := 0) (v := .ref di) (C := R_Dr) (T := T_Dr) (N := 7) hx hb hts (fun w h => List.mem_cons_of_mem _ (inA_Dr w h)) hown hK hP 0 rfl rfl 2 (by decide) (hw k_Dr_f24) (fun _ h9 => h9) rfl d_Dr_joinToChoice_35 ?_
  refine lv_iload_n hx hb d_Dr_joinToChoice_38 rfl (lv_at hl 1 rfl) ?_
  have hPc : va_P D vwCl [(di, .inr (3, [.ref diw])), (diw, .inl (c 2, 4 * 40, .inr (.inl iw)))] s.heap := hP.sub (ws' := [(di, .inr (3, [.ref diw])), (diw, .inl (c 2, 4 * 40, .inr (.inl iw)))]) [1, 2] rfl
  have hDc : va_D A [(di, .inr (3, [.ref diw])), (diw, .inl (c 2, 4 * 40, .inr (.inl iw)))] := hD.sub (ws' := [(di, .inr (3, [.ref diw])), (diw, .inl (c 2, 4 * 40, .inr (.inl iw)))]) [1, 2] (by decide) rfl
  have hDt : va_D (fun _ => True) [(di, .inr (3, [.ref diw])), (diw, .inl (c 2, 4 * 40, .inr (.inl iw)))] := hDc.weaken (fun _ _ _ _ => trivial)
  refine z_callv (S := Unit) (w1 := fun u => [(di, .inr (3, [.ref diw])), (diw, .inl (c 2, 4 * 40, .inr (.inl (zor iw q iw (q + 1)))))]) (post := fun u => True) (wc := [(di, .inr (3, [.ref diw])), (diw, .inl (c 2, 4 * 40, .inr (.inl iw)))]) [1, 2] rfl (fun _ => rfl) hP hD hS (va_runV (rm := rm_addSelf) (As := [.int (zI ((q : Nat) : Int)), .ref di, .int (zI ((q + 1 : Nat) : Int))]) (rest := []) ⟨hx, hb, hml, hown, hts⟩ (c_addSelf l D c di diw 40 iw q (q + 1) (by omega) (by omega) (by omega)) (cwV 3 hts (gWV k_Dr_m55 k_i_Se_addAll k_v_Se_addAll k_n_Se k_c_Se_addAll) rfl rfl rfl (by decide +kernel) ⟨Nat.le_of_ble_eq_true rfl, Nat.le_of_ble_eq_true rfl⟩) ⟨zblindW, va_recv hK hPc (ci := 3) (q0 := 0) rfl rfl, fun U hU hW => ⟨rfl, ⟨by rw [hU]; exact hPc, hDt⟩, hKN.moved hW⟩⟩ rfl rfl hl.1 rfl (lv_room (Nat.le_of_ble_eq_true rfl)) d_Dr_joinToChoice_39 ⟨Nat.zero_le _, Nat.zero_le _⟩) (fun u H locs hp_3 hP hD hS => ?_)
  have hP : va_P D vwCl [(d, .inr (0, [.ref dn, .ref df, .ref di, .ref dl, .ref dm, .int (zI ((nc : Nat) : Int)), .int (zI ((q + 2 : Nat) : Int))])), (di, .inr (3, [.ref diw])), (diw, .inl (c 2, 4 * 40, .inr (.inl (zor iw q iw (q + 1))))), (dl, .inr (3, [.ref dlw])), (dlw, .inl (c 2, 4 * 40, .inr (.inl lw))), (dm, .inl (c 1, 40, .inl (fun j => zB (mb j))))] H := hP
  have hD : va_D A [(d, .inr (0, [.ref dn, .ref df, .ref di, .ref dl, .ref dm, .int (zI ((nc : Nat) : Int)), .int (zI ((q + 2 : Nat) : Int))])), (di, .inr (3, [.ref diw])), (diw, .inl (c 2, 4 * 40, .inr (.inl (zor iw q iw (q + 1))))), (dl, .inr (3, [.ref dlw])), (dlw, .inl (c 2, 4 * 40, .inr (.inl lw))), (dm, .inl (c 1, 40, .inl (fun j => zB (mb j))))] := hD
  refine lv_aload_n hx hb d_Dr_joinToChoice_42 rfl (lv_at hl 2 rfl) ?_
  refine va_get (D := D) (ci := 0) (v := .ref dl) (C := R_Dr) (T := T_Dr) (N := 7) hx hb hts (fun w h => List.mem_cons_of_mem _ (inA_Dr w h)) hown hK hP 0 rfl rfl 3 (by decide) (hw k_Dr_f27) (fun _ h9 => h9) rfl d_Dr_joinToChoice_43 ?_
  refine lv_iload_n hx hb d_Dr_joinToChoice_46 rfl (lv_at hl 0 rfl) ?_
  refine lv_aload_n hx hb d_Dr_joinToChoice_47 rfl (lv_at hl 2 rfl) ?_
  refine va_get (D := D) (ci := 0) (v := .ref dl) (C := R_Dr) (T := T_Dr) (N := 7) hx hb hts (fun w h => List.mem_cons_of_mem _ (inA_Dr w h)) hown hK hP 0 rfl rfl 3 (by decide) (hw k_Dr_f27) (fun _ h9 => h9) rfl d_Dr_joinToChoice_48 ?_
  refine lv_iload_n hx hb d_Dr_joinToChoice_51 rfl (lv_at hl 1 rfl) ?_
  have hPc : va_P D vwCl [(dl, .inr (3, [.ref dlw])), (dlw, .inl (c 2, 4 * 40, .inr (.inl lw)))] H := hP.sub (ws' := [(dl, .inr (3, [.ref dlw])), (dlw, .inl (c 2, 4 * 40, .inr (.inl lw)))]) [3, 4] rfl
  have hDc : va_D A [(dl, .inr (3, [.ref dlw])), (dlw, .inl (c 2, 4 * 40, .inr (.inl lw)))] := hD.sub (ws' := [(dl, .inr (3, [.ref dlw])), (dlw, .inl (c 2, 4 * 40, .inr (.inl lw)))]) [3, 4] (by decide) rfl
  have hDt : va_D (fun _ => True) [(dl, .inr (3, [.ref dlw])), (dlw, .inl (c 2, 4 * 40, .inr (.inl lw)))] := hDc.weaken (fun _ _ _ _ => trivial)
  refine z_callv (S := Unit) (w1 := fun u => [(dl, .inr (3, [.ref dlw])), (dlw, .inl (c 2, 4 * 40, .inr (.inl (zor lw q lw (q + 1)))))]) (post := fun u => True) (wc := [(dl, .inr (3, [.ref dlw])), (dlw, .inl (c 2, 4 * 40, .inr (.inl lw)))]) [3, 4] rfl (fun _ => rfl) hP hD hS (va_runV (rm := rm_addSelf) (As := [.int (zI ((q : Nat) : Int)), .ref dl, .int (zI ((q + 1 : Nat) : Int))]) (rest := []) ⟨hx, hb, hml, hown, hts⟩ (c_addSelf l D c dl dlw 40 lw q (q + 1) (by omega) (by omega) (by omega)) (cwV 3 hts (gWV k_Dr_m55 k_i_Se_addAll k_v_Se_addAll k_n_Se k_c_Se_addAll) rfl rfl rfl (by decide +kernel) ⟨Nat.le_of_ble_eq_true rfl, Nat.le_of_ble_eq_true rfl⟩) ⟨zblindW, va_recv hK hPc (ci := 3) (q0 := 0) rfl rfl, fun U hU hW => ⟨rfl, ⟨by rw [hU]; exact hPc, hDt⟩, hKN.moved hW⟩⟩ rfl rfl hl.1 rfl (lv_room (Nat.le_of_ble_eq_true rfl)) d_Dr_joinToChoice_52 ⟨Nat.zero_le _, Nat.zero_le _⟩) (fun u H locs hp_4 hP hD hS => ?_)
  have hP : va_P D vwCl [(d, .inr (0, [.ref dn, .ref df, .ref di, .ref dl, .ref dm, .int (zI ((nc : Nat) : Int)), .int (zI ((q + 2 : Nat) : Int))])), (di, .inr (3, [.ref diw])), (diw, .inl (c 2, 4 * 40, .inr (.inl (zor iw q iw (q + 1))))), (dl, .inr (3, [.ref dlw])), (dlw, .inl (c 2, 4 * 40, .inr (.inl (zor lw q lw (q + 1))))), (dm, .inl (c 1, 40, .inl (fun j => zB (mb j))))] H := hP
  have hD : va_D A [(d, .inr (0, [.ref dn, .ref df, .ref di, .ref dl, .ref dm, .int (zI ((nc : Nat) : Int)), .int (zI ((q + 2 : Nat) : Int))])), (di, .inr (3, [.ref diw])), (diw, .inl (c 2, 4 * 40, .inr (.inl (zor iw q iw (q + 1))))), (dl, .inr (3, [.ref dlw])), (dlw, .inl (c 2, 4 * 40, .inr (.inl (zor lw q lw (q + 1))))), (dm, .inl (c 1, 40, .inl (fun j => zB (mb j))))] := hD
  refine lv_aload_n hx hb d_Dr_joinToChoice_55 rfl (lv_at hl 2 rfl) ?_
  refine va_get (D := D) (ci := 0) (v := .ref dm) (C := R_Dr) (T := T_Dr) (N := 7) hx hb hts (fun w h => List.mem_cons_of_mem _ (inA_Dr w h)) hown hK hP 0 rfl rfl 4 (by decide) (hw k_Dr_f30) (fun _ h9 => h9) rfl d_Dr_joinToChoice_56 ?_
  refine lv_iload_n hx hb d_Dr_joinToChoice_59 rfl (lv_at hl 0 rfl) ?_
  refine lv_aload_n hx hb d_Dr_joinToChoice_60 rfl (lv_at hl 2 rfl) ?_
  refine va_get (D := D) (ci := 0) (v := .ref dm) (C := R_Dr) (T := T_Dr) (N := 7) hx hb hts (fun w h => List.mem_cons_of_mem _ (inA_Dr w h)) hown hK hP 0 rfl rfl 4 (by decide) (hw k_Dr_f30) (fun _ h9 => h9) rfl d_Dr_joinToChoice_61 ?_
  refine lv_iload_n hx hb d_Dr_joinToChoice_64 rfl (lv_at hl 0 rfl) ?_
  refine z_zald hx hb hK hP 5 1 rfl rfl (q) (by omega) (by omega) (by omega) d_Dr_joinToChoice_65 ?_
  refine z_ifne_B (tgt := 78) hx hb d_Dr_joinToChoice_66 (by decide) (fun hc_66 => ?_) (fun hc_66 => ?_)
  · refine lv_iconst (v := zI 1) hx hb d_Dr_joinToChoice_78 (by decide) ?_
    refine lv_goto (tgt := 83) hx hb d_Dr_joinToChoice_79 (by decide) ?_
    refine z_top (v2 := .int (zB true)) (congrArg Value.int (by decide)) ?_
    refine z_zast hx hb hK hP hD hS 5 1 rfl rfl (q) (by omega) (by omega) (by omega) d_Dr_joinToChoice_83 (fun H locs hP hD hS => ?_)
    have hP : va_P D vwCl [(d, .inr (0, [.ref dn, .ref df, .ref di, .ref dl, .ref dm, .int (zI ((nc : Nat) : Int)), .int (zI ((q + 2 : Nat) : Int))])), (di, .inr (3, [.ref diw])), (diw, .inl (c 2, 4 * 40, .inr (.inl (zor iw q iw (q + 1))))), (dl, .inr (3, [.ref dlw])), (dlw, .inl (c 2, 4 * 40, .inr (.inl (zor lw q lw (q + 1))))), (dm, .inl (c 1, 40, .inl (fun j => zB ((va_up mb q true) j))))] H := hP
    have hD : va_D A [(d, .inr (0, [.ref dn, .ref df, .ref di, .ref dl, .ref dm, .int (zI ((nc : Nat) : Int)), .int (zI ((q + 2 : Nat) : Int))])), (di, .inr (3, [.ref diw])), (diw, .inl (c 2, 4 * 40, .inr (.inl (zor iw q iw (q + 1))))), (dl, .inr (3, [.ref dlw])), (dlw, .inl (c 2, 4 * 40, .inr (.inl (zor lw q lw (q + 1))))), (dm, .inl (c 1, 40, .inl (fun j => zB ((va_up mb q true) j))))] := hD
    refine lv_aload_n hx hb d_Dr_joinToChoice_84 rfl (lv_at hl 2 rfl) ?_
    refine lv_iload_n hx hb d_Dr_joinToChoice_85 rfl (lv_at hl 1 rfl) ?_
    refine va_put (D := D) (ci := 0) (v := .int (zI ((q + 1 : Nat) : Int))) (ty := .int) (C := R_Dr) (T := T_Dr) (N := 7) hx hb hts (fun w h => List.mem_cons_of_mem _ (inA_Dr w h)) ty_Dr tyok_Dr nm_Dr hown hK hP hD hS 0 rfl rfl 6 (by decide) (hw k_Dr_f34) (fun _ h9 => h9) rfl (by decide +kernel) rfl rfl (Nat.le_of_ble_eq_true rfl) d_Dr_joinToChoice_86 (fun H locs hP hD hS => ?_)
    have hP : va_P D vwCl [(d, .inr (0, [.ref dn, .ref df, .ref di, .ref dl, .ref dm, .int (zI ((nc : Nat) : Int)), .int (zI ((q + 1 : Nat) : Int))])), (di, .inr (3, [.ref diw])), (diw, .inl (c 2, 4 * 40, .inr (.inl (zor iw q iw (q + 1))))), (dl, .inr (3, [.ref dlw])), (dlw, .inl (c 2, 4 * 40, .inr (.inl (zor lw q lw (q + 1))))), (dm, .inl (c 1, 40, .inl (fun j => zB ((va_up mb q true) j))))] H := hP
    have hD : va_D A [(d, .inr (0, [.ref dn, .ref df, .ref di, .ref dl, .ref dm, .int (zI ((nc : Nat) : Int)), .int (zI ((q + 1 : Nat) : Int))])), (di, .inr (3, [.ref diw])), (diw, .inl (c 2, 4 * 40, .inr (.inl (zor iw q iw (q + 1))))), (dl, .inr (3, [.ref dlw])), (dlw, .inl (c 2, 4 * 40, .inr (.inl (zor lw q lw (q + 1))))), (dm, .inl (c 1, 40, .inl (fun j => zB ((va_up mb q true) j))))] := hD
    refine lv_iconst (v := zI 1) hx hb d_Dr_joinToChoice_89 (by decide) ?_
    subst hQ
    exact W.zret (ty := .boolean) (v := (zI 1)) hx hb hr (by decide) (fun t9 ht hW => ⟨⟨_, (), rfl, ⟨(by decide), trivial⟩, by show va_P _ _ _ t9.heap; rw [ht]; rw [show (mb q || mb (q + 1)) = true by simp [*]]; exact hP⟩, hS.F ht⟩) hS.2.2 d_Dr_joinToChoice_90
  · refine lv_aload_n hx hb d_Dr_joinToChoice_69 rfl (lv_at hl 2 rfl) ?_
    refine va_get (D := D) (ci := 0) (v := .ref dm) (C := R_Dr) (T := T_Dr) (N := 7) hx hb hts (fun w h => List.mem_cons_of_mem _ (inA_Dr w h)) hown hK hP 0 rfl rfl 4 (by decide) (hw k_Dr_f30) (fun _ h9 => h9) rfl d_Dr_joinToChoice_70 ?_
    refine lv_iload_n hx hb d_Dr_joinToChoice_73 rfl (lv_at hl 1 rfl) ?_
    refine z_zald hx hb hK hP 5 1 rfl rfl (q + 1) (by omega) (by omega) (by omega) d_Dr_joinToChoice_74 ?_
    refine z_ifeq_B (tgt := 82) hx hb d_Dr_joinToChoice_75 (by decide) (fun hc_75 => ?_) (fun hc_75 => ?_)
    · refine lv_iconst (v := zI 0) hx hb d_Dr_joinToChoice_82 (by decide) ?_
      refine z_top (v2 := .int (zB false)) (congrArg Value.int (by decide)) ?_
      refine z_zast hx hb hK hP hD hS 5 1 rfl rfl (q) (by omega) (by omega) (by omega) d_Dr_joinToChoice_83 (fun H locs hP hD hS => ?_)
      have hP : va_P D vwCl [(d, .inr (0, [.ref dn, .ref df, .ref di, .ref dl, .ref dm, .int (zI ((nc : Nat) : Int)), .int (zI ((q + 2 : Nat) : Int))])), (di, .inr (3, [.ref diw])), (diw, .inl (c 2, 4 * 40, .inr (.inl (zor iw q iw (q + 1))))), (dl, .inr (3, [.ref dlw])), (dlw, .inl (c 2, 4 * 40, .inr (.inl (zor lw q lw (q + 1))))), (dm, .inl (c 1, 40, .inl (fun j => zB ((va_up mb q false) j))))] H := hP
      have hD : va_D A [(d, .inr (0, [.ref dn, .ref df, .ref di, .ref dl, .ref dm, .int (zI ((nc : Nat) : Int)), .int (zI ((q + 2 : Nat) : Int))])), (di, .inr (3, [.ref diw])), (diw, .inl (c 2, 4 * 40, .inr (.inl (zor iw q iw (q + 1))))), (dl, .inr (3, [.ref dlw])), (dlw, .inl (c 2, 4 * 40, .inr (.inl (zor lw q lw (q + 1))))), (dm, .inl (c 1, 40, .inl (fun j => zB ((va_up mb q false) j))))] := hD
      refine lv_aload_n hx hb d_Dr_joinToChoice_84 rfl (lv_at hl 2 rfl) ?_
      refine lv_iload_n hx hb d_Dr_joinToChoice_85 rfl (lv_at hl 1 rfl) ?_
      refine va_put (D := D) (ci := 0) (v := .int (zI ((q + 1 : Nat) : Int))) (ty := .int) (C := R_Dr) (T := T_Dr) (N := 7) hx hb hts (fun w h => List.mem_cons_of_mem _ (inA_Dr w h)) ty_Dr tyok_Dr nm_Dr hown hK hP hD hS 0 rfl rfl 6 (by decide) (hw k_Dr_f34) (fun _ h9 => h9) rfl (by decide +kernel) rfl rfl (Nat.le_of_ble_eq_true rfl) d_Dr_joinToChoice_86 (fun H locs hP hD hS => ?_)
      have hP : va_P D vwCl [(d, .inr (0, [.ref dn, .ref df, .ref di, .ref dl, .ref dm, .int (zI ((nc : Nat) : Int)), .int (zI ((q + 1 : Nat) : Int))])), (di, .inr (3, [.ref diw])), (diw, .inl (c 2, 4 * 40, .inr (.inl (zor iw q iw (q + 1))))), (dl, .inr (3, [.ref dlw])), (dlw, .inl (c 2, 4 * 40, .inr (.inl (zor lw q lw (q + 1))))), (dm, .inl (c 1, 40, .inl (fun j => zB ((va_up mb q false) j))))] H := hP
      have hD : va_D A [(d, .inr (0, [.ref dn, .ref df, .ref di, .ref dl, .ref dm, .int (zI ((nc : Nat) : Int)), .int (zI ((q + 1 : Nat) : Int))])), (di, .inr (3, [.ref diw])), (diw, .inl (c 2, 4 * 40, .inr (.inl (zor iw q iw (q + 1))))), (dl, .inr (3, [.ref dlw])), (dlw, .inl (c 2, 4 * 40, .inr (.inl (zor lw q lw (q + 1))))), (dm, .inl (c 1, 40, .inl (fun j => zB ((va_up mb q false) j))))] := hD
      refine lv_iconst (v := zI 1) hx hb d_Dr_joinToChoice_89 (by decide) ?_
      subst hQ
      exact W.zret (ty := .boolean) (v := (zI 1)) hx hb hr (by decide) (fun t9 ht hW => ⟨⟨_, (), rfl, ⟨(by decide), trivial⟩, by show va_P _ _ _ t9.heap; rw [ht]; rw [show (mb q || mb (q + 1)) = false by simp [*]]; exact hP⟩, hS.F ht⟩) hS.2.2 d_Dr_joinToChoice_90
    · refine lv_iconst (v := zI 1) hx hb d_Dr_joinToChoice_78 (by decide) ?_
      refine lv_goto (tgt := 83) hx hb d_Dr_joinToChoice_79 (by decide) ?_
      refine z_top (v2 := .int (zB true)) (congrArg Value.int (by decide)) ?_
      refine z_zast hx hb hK hP hD hS 5 1 rfl rfl (q) (by omega) (by omega) (by omega) d_Dr_joinToChoice_83 (fun H locs hP hD hS => ?_)
      have hP : va_P D vwCl [(d, .inr (0, [.ref dn, .ref df, .ref di, .ref dl, .ref dm, .int (zI ((nc : Nat) : Int)), .int (zI ((q + 2 : Nat) : Int))])), (di, .inr (3, [.ref diw])), (diw, .inl (c 2, 4 * 40, .inr (.inl (zor iw q iw (q + 1))))), (dl, .inr (3, [.ref dlw])), (dlw, .inl (c 2, 4 * 40, .inr (.inl (zor lw q lw (q + 1))))), (dm, .inl (c 1, 40, .inl (fun j => zB ((va_up mb q true) j))))] H := hP
      have hD : va_D A [(d, .inr (0, [.ref dn, .ref df, .ref di, .ref dl, .ref dm, .int (zI ((nc : Nat) : Int)), .int (zI ((q + 2 : Nat) : Int))])), (di, .inr (3, [.ref diw])), (diw, .inl (c 2, 4 * 40, .inr (.inl (zor iw q iw (q + 1))))), (dl, .inr (3, [.ref dlw])), (dlw, .inl (c 2, 4 * 40, .inr (.inl (zor lw q lw (q + 1))))), (dm, .inl (c 1, 40, .inl (fun j => zB ((va_up mb q true) j))))] := hD
      refine lv_aload_n hx hb d_Dr_joinToChoice_84 rfl (lv_at hl 2 rfl) ?_
      refine lv_iload_n hx hb d_Dr_joinToChoice_85 rfl (lv_at hl 1 rfl) ?_
      refine va_put (D := D) (ci := 0) (v := .int (zI ((q + 1 : Nat) : Int))) (ty := .int) (C := R_Dr) (T := T_Dr) (N := 7) hx hb hts (fun w h => List.mem_cons_of_mem _ (inA_Dr w h)) ty_Dr tyok_Dr nm_Dr hown hK hP hD hS 0 rfl rfl 6 (by decide) (hw k_Dr_f34) (fun _ h9 => h9) rfl (by decide +kernel) rfl rfl (Nat.le_of_ble_eq_true rfl) d_Dr_joinToChoice_86 (fun H locs hP hD hS => ?_)
      have hP : va_P D vwCl [(d, .inr (0, [.ref dn, .ref df, .ref di, .ref dl, .ref dm, .int (zI ((nc : Nat) : Int)), .int (zI ((q + 1 : Nat) : Int))])), (di, .inr (3, [.ref diw])), (diw, .inl (c 2, 4 * 40, .inr (.inl (zor iw q iw (q + 1))))), (dl, .inr (3, [.ref dlw])), (dlw, .inl (c 2, 4 * 40, .inr (.inl (zor lw q lw (q + 1))))), (dm, .inl (c 1, 40, .inl (fun j => zB ((va_up mb q true) j))))] H := hP
      have hD : va_D A [(d, .inr (0, [.ref dn, .ref df, .ref di, .ref dl, .ref dm, .int (zI ((nc : Nat) : Int)), .int (zI ((q + 1 : Nat) : Int))])), (di, .inr (3, [.ref diw])), (diw, .inl (c 2, 4 * 40, .inr (.inl (zor iw q iw (q + 1))))), (dl, .inr (3, [.ref dlw])), (dlw, .inl (c 2, 4 * 40, .inr (.inl (zor lw q lw (q + 1))))), (dm, .inl (c 1, 40, .inl (fun j => zB ((va_up mb q true) j))))] := hD
      refine lv_iconst (v := zI 1) hx hb d_Dr_joinToChoice_89 (by decide) ?_
      subst hQ
      exact W.zret (ty := .boolean) (v := (zI 1)) hx hb hr (by decide) (fun t9 ht hW => ⟨⟨_, (), rfl, ⟨(by decide), trivial⟩, by show va_P _ _ _ t9.heap; rw [ht]; rw [show (mb q || mb (q + 1)) = true by simp [*]]; exact hP⟩, hS.F ht⟩) hS.2.2 d_Dr_joinToChoice_90

def rm_repeatLast_no : Room := { frames := 1, cells := 0, slots := 0, locals := 21 }
set_option maxHeartbeats 4000000 in
set_option maxRecDepth 100000 in
/-- Draft.repeatLast, refused -/
theorem c_repeatLast_no (l : Launch) (D : va_G) (c : Nat → ClassId) (d : Nat) (dn : Nat) (df : Nat) (dfw : Nat) (di : Nat) (diw : Nat) (dl : Nat) (dlw : Nat) (dm : Nat) (nm : Nat → Nat) (fw : Nat → Int64) (iw : Nat → Int64) (lw : Nat → Int64) (mb : Nat → Bool) (nc : Nat) (pp : Nat) (x : Int) (hp : pp ≤ 40) (hx_ : -2147483648 ≤ x ∧ x < 2147483648) (hno : pp = 0 ∨ x < 1 ∨ 3 < x) : Met l y_Dr_repeatLast w_Dr_repeatLast rm_repeatLast_no (va_Pc [.ref d, .int (zI x)] (fun U => va_P D vwCl [(d, .inr (0, [.ref dn, .ref df, .ref di, .ref dl, .ref dm, .int (zI ((nc : Nat) : Int)), .int (zI ((pp : Nat) : Int))])), (dm, .inl (c 1, 40, .inl (fun j => zB (mb j))))] U.heap ∧ zK D c U)) (vp_Si (fun r => r = (zB false))) 0 0 (fun _ => False) := by
  refine Met.ofW (cc := b_Dr_repeatLast) (maxL := 3) (ret := (some .boolean)) (by decide) rfl ?_
  intro p e s m args below meth c0 s₁ B hml hv
  obtain ⟨rfl, hP, hKN⟩ := hv
  have hK := hKN.1
  have hN := hKN.2
  have hx := B.exec
  have hb := B.bytes
  have hr := B.returns
  have hts := atoms_spec (ws := w_Dr_repeatLast) B.pre
  have hw : ∀ {w : Cond}, w ∈ ALLW → w.before _ s = true := fun h => hts _ (List.mem_cons_of_mem _ h)
  have hown : s.vm.findClass R_Dr = some m.cls := findClass_of_methodNamed B.named
  have hlocks := B.notSynchronized
  have hl := lv_entry ([.ref d, .int (zI x)]) (n := 3) (Nat.le_of_ble_eq_true rfl)
  rw [lg_entry_eq]
  generalize (lg_sl ([.ref d, .int (zI x)]) ++ List.replicate (3 - (lg_sl ([.ref d, .int (zI x)])).length) Slot.unset).toArray = ls at hl ⊢
  have hl : lv_has ls 3 [(0, .ref d), (1, .int (zI x))] := hl
  generalize hQ : MQ below _ _ _ _ _ _ = Q
  refine lv_aload_n hx hb d_Dr_repeatLast_0 rfl (lv_at hl 0 rfl) ?_
  refine va_get (D := D) (ci := 0) (v := .int (zI ((pp : Nat) : Int))) (C := R_Dr) (T := T_Dr) (N := 7) hx hb hts (fun w h => List.mem_cons_of_mem _ (inA_Dr w h)) hown hK hP 0 rfl rfl 6 (by decide) (hw k_Dr_f34) (fun _ h9 => h9) rfl d_Dr_repeatLast_1 ?_
  refine lv_iconst (v := zI 1) hx hb d_Dr_repeatLast_4 (by decide) ?_
  refine z_isub hx hb d_Dr_repeatLast_5 ?_
  refine lv_istore_n (lv' := [(2, .int (zI (((pp : Nat) : Int) - 1))), (0, .ref d), (1, .int (zI x))]) hx hb d_Dr_repeatLast_6 rfl hl (by decide) rfl (fun ls hl => ?_)
  refine lv_aload_n hx hb d_Dr_repeatLast_7 rfl (lv_at hl 1 rfl) ?_
  refine lv_iload_n hx hb d_Dr_repeatLast_8 rfl (lv_at hl 0 rfl) ?_
  have hPc : va_P D vwCl [(d, .inr (0, [.ref dn, .ref df, .ref di, .ref dl, .ref dm, .int (zI ((nc : Nat) : Int)), .int (zI ((pp : Nat) : Int))])), (dm, .inl (c 1, 40, .inl (fun j => zB (mb j))))] s.heap := hP.sub (ws' := [(d, .inr (0, [.ref dn, .ref df, .ref di, .ref dl, .ref dm, .int (zI ((nc : Nat) : Int)), .int (zI ((pp : Nat) : Int))])), (dm, .inl (c 1, 40, .inl (fun j => zB (mb j))))]) [0, 1] rfl
  refine vp_callSi (va_runV (rm := rm_hasPart) (As := [.int (zI (((pp : Nat) : Int) - 1))]) (rest := []) ⟨hx, hb, hml, hown, hts⟩ (c_hasPart l D c d dn df dfw di diw dl dlw dm nm fw iw lw mb nc pp (((pp : Nat) : Int) - 1) (by omega) (by omega)) (cwV 1 hts (gWV k_Dr_m48 k_i_Dr_hasPart k_v_Dr_hasPart k_n_Dr k_c_Dr_hasPart) rfl rfl rfl (by decide +kernel) ⟨Nat.le_of_ble_eq_true rfl, Nat.le_of_ble_eq_true rfl⟩) ⟨zblind, va_recv hK hPc (ci := 0) (q0 := 0) rfl rfl, fun U hU hW => ⟨rfl, by rw [hU]; exact hPc, hKN.moved hW⟩⟩ rfl rfl hl.1 rfl (lv_room (Nat.le_of_ble_eq_true rfl)) d_Dr_repeatLast_9 ⟨Nat.zero_le _, Nat.zero_le _⟩).run (fun r hr_1 => ?_)
  subst hr_1
  refine z_ifeq_B (tgt := 25) hx hb d_Dr_repeatLast_12 (by decide) (fun hc_12 => ?_) (fun hc_12 => ?_)
  · refine lv_iconst (v := zI 0) hx hb d_Dr_repeatLast_25 (by decide) ?_
    subst hQ
    exact W.zret (ty := .boolean) (v := (zI 0)) hx hb hr (by decide) (fun t9 ht hW => ⟨_, rfl, (by decide), ht⟩) (fun q hq => absurd hq List.not_mem_nil) d_Dr_repeatLast_26
  · have hpos : 0 ≤ ((pp : Nat) : Int) - 1 := (of_decide_eq_true hc_12).1
    refine lv_iload_n hx hb d_Dr_repeatLast_15 rfl (lv_at hl 2 rfl) ?_
    refine lv_iconst (v := zI 1) hx hb d_Dr_repeatLast_16 (by decide) ?_
    refine z_icmp_lt (tgt := 25) hx hb (by omega) d_Dr_repeatLast_17 (by decide) (fun hc_17 => ?_) (fun hc_17 => ?_)
    · refine lv_iconst (v := zI 0) hx hb d_Dr_repeatLast_25 (by decide) ?_
      subst hQ
      exact W.zret (ty := .boolean) (v := (zI 0)) hx hb hr (by decide) (fun t9 ht hW => ⟨_, rfl, (by decide), ht⟩) (fun q hq => absurd hq List.not_mem_nil) d_Dr_repeatLast_26
    · refine lv_iload_n hx hb d_Dr_repeatLast_20 rfl (lv_at hl 2 rfl) ?_
      refine lv_iconst (v := zI 3) hx hb d_Dr_repeatLast_21 (by decide) ?_
      refine z_icmp_le (tgt := 27) hx hb (by omega) d_Dr_repeatLast_22 (by decide) (fun hc_22 => absurd hc_22 (by omega)) (fun hc_22 => ?_)
      refine lv_iconst (v := zI 0) hx hb d_Dr_repeatLast_25 (by decide) ?_
      subst hQ
      exact W.zret (ty := .boolean) (v := (zI 0)) hx hb hr (by decide) (fun t9 ht hW => ⟨_, rfl, (by decide), ht⟩) (fun q hq => absurd hq List.not_mem_nil) d_Dr_repeatLast_26

def rm_repeatLast1 : Room := { frames := 1, cells := 0, slots := 0, locals := 21 }
set_option maxHeartbeats 4000000 in
set_option maxRecDepth 100000 in
/-- Draft.repeatLast(1) -/
theorem c_repeatLast1 (l : Launch) (D : va_G) (c : Nat → ClassId) (d : Nat) (dn : Nat) (df : Nat) (dfw : Nat) (di : Nat) (diw : Nat) (dl : Nat) (dlw : Nat) (dm : Nat) (nm : Nat → Nat) (fw : Nat → Int64) (iw : Nat → Int64) (lw : Nat → Int64) (mb : Nat → Bool) (nc : Nat) (q : Nat) (hp : q + 1 ≤ 40) (hc : nc ≤ 255) : Met l y_Dr_repeatLast w_Dr_repeatLast rm_repeatLast1 (va_Pc [.ref d, .int (zI 1)] (fun U => (va_P D vwCl [(d, .inr (0, [.ref dn, .ref df, .ref di, .ref dl, .ref dm, .int (zI ((nc : Nat) : Int)), .int (zI ((q + 1 : Nat) : Int))])), (df, .inr (3, [.ref dfw])), (dfw, .inl (c 2, 4 * 255, .inr (.inl fw))), (di, .inr (3, [.ref diw])), (diw, .inl (c 2, 4 * 40, .inr (.inl iw))), (dl, .inr (3, [.ref dlw])), (dlw, .inl (c 2, 4 * 40, .inr (.inl lw))), (dm, .inl (c 1, 40, .inl (fun j => zB (mb j))))] U.heap ∧ va_D (fun _ => True) [(d, .inr (0, [.ref dn, .ref df, .ref di, .ref dl, .ref dm, .int (zI ((nc : Nat) : Int)), .int (zI ((q + 1 : Nat) : Int))])), (df, .inr (3, [.ref dfw])), (dfw, .inl (c 2, 4 * 255, .inr (.inl fw))), (di, .inr (3, [.ref diw])), (diw, .inl (c 2, 4 * 40, .inr (.inl iw))), (dl, .inr (3, [.ref dlw])), (dlw, .inl (c 2, 4 * 40, .inr (.inl lw))), (dm, .inl (c 1, 40, .inl (fun j => zB (mb j))))]) ∧ zK D c U)) (va_Qi (fun (r : Int32) (u : Unit) => r = (zB true) ∧ True) (fun (u : Unit) t9 => va_P D vwCl [(d, .inr (0, [.ref dn, .ref df, .ref di, .ref dl, .ref dm, .int (zI ((nc : Nat) : Int)), .int (zI ((q + 1 : Nat) : Int))])), (df, .inr (3, [.ref dfw])), (dfw, .inl (c 2, 4 * 255, .inr (.inl fw))), (di, .inr (3, [.ref diw])), (diw, .inl (c 2, 4 * 40, .inr (.inl iw))), (dl, .inr (3, [.ref dlw])), (dlw, .inl (c 2, 4 * 40, .inr (.inl lw))), (dm, .inl (c 1, 40, .inl (fun j => zB ((va_up mb q true) j))))] t9.heap) (zA [(d, .inr (0, [.ref dn, .ref df, .ref di, .ref dl, .ref dm, .int (zI ((nc : Nat) : Int)), .int (zI ((q + 1 : Nat) : Int))])), (df, .inr (3, [.ref dfw])), (dfw, .inl (c 2, 4 * 255, .inr (.inl fw))), (di, .inr (3, [.ref diw])), (diw, .inl (c 2, 4 * 40, .inr (.inl iw))), (dl, .inr (3, [.ref dlw])), (dlw, .inl (c 2, 4 * 40, .inr (.inl lw))), (dm, .inl (c 1, 40, .inl (fun j => zB (mb j))))])) 0 0 (zA [(d, .inr (0, [.ref dn, .ref df, .ref di, .ref dl, .ref dm, .int (zI ((nc : Nat) : Int)), .int (zI ((q + 1 : Nat) : Int))])), (df, .inr (3, [.ref dfw])), (dfw, .inl (c 2, 4 * 255, .inr (.inl fw))), (di, .inr (3, [.ref diw])), (diw, .inl (c 2, 4 * 40, .inr (.inl iw))), (dl, .inr (3, [.ref dlw])), (dlw, .inl (c 2, 4 * 40, .inr (.inl lw))), (dm, .inl (c 1, 40, .inl (fun j => zB (mb j))))]) := by
  refine Met.ofW (cc := b_Dr_repeatLast) (maxL := 3) (ret := (some .boolean)) (by decide) rfl ?_
  intro p e s m args below meth c0 s₁ B hml hv
  obtain ⟨rfl, ⟨hP, hD0⟩, hKN⟩ := hv
  have hK := hKN.1
  have hN := hKN.2
  have hx := B.exec
  have hb := B.bytes
  have hr := B.returns
  have hts := atoms_spec (ws := w_Dr_repeatLast) B.pre
  have hw : ∀ {w : Cond}, w ∈ ALLW → w.before _ s = true := fun h => hts _ (List.mem_cons_of_mem _ h)
  have hown : s.vm.findClass R_Dr = some m.cls := findClass_of_methodNamed B.named
  have hlocks := B.notSynchronized
  have hD : va_D (zA [(d, .inr (0, [.ref dn, .ref df, .ref di, .ref dl, .ref dm, .int (zI ((nc : Nat) : Int)), .int (zI ((q + 1 : Nat) : Int))])), (df, .inr (3, [.ref dfw])), (dfw, .inl (c 2, 4 * 255, .inr (.inl fw))), (di, .inr (3, [.ref diw])), (diw, .inl (c 2, 4 * 40, .inr (.inl iw))), (dl, .inr (3, [.ref dlw])), (dlw, .inl (c 2, 4 * 40, .inr (.inl lw))), (dm, .inl (c 1, 40, .inl (fun j => zB (mb j))))]) [(d, .inr (0, [.ref dn, .ref df, .ref di, .ref dl, .ref dm, .int (zI ((nc : Nat) : Int)), .int (zI ((q + 1 : Nat) : Int))])), (df, .inr (3, [.ref dfw])), (dfw, .inl (c 2, 4 * 255, .inr (.inl fw))), (di, .inr (3, [.ref diw])), (diw, .inl (c 2, 4 * 40, .inr (.inl iw))), (dl, .inr (3, [.ref dlw])), (dlw, .inl (c 2, 4 * 40, .inr (.inl lw))), (dm, .inl (c 1, 40, .inl (fun j => zB (mb j))))] := ⟨hD0.1, fun k q h => List.mem_map.mpr ⟨q, List.mem_of_getElem? h, rfl⟩⟩
  generalize hAe : zA [(d, .inr (0, [.ref dn, .ref df, .ref di, .ref dl, .ref dm, .int (zI ((nc : Nat) : Int)), .int (zI ((q + 1 : Nat) : Int))])), (df, .inr (3, [.ref dfw])), (dfw, .inl (c 2, 4 * 255, .inr (.inl fw))), (di, .inr (3, [.ref diw])), (diw, .inl (c 2, 4 * 40, .inr (.inl iw))), (dl, .inr (3, [.ref dlw])), (dlw, .inl (c 2, 4 * 40, .inr (.inl lw))), (dm, .inl (c 1, 40, .inl (fun j => zB (mb j))))] = A at hD ⊢
  have hS : va_S A s.heap s.heap [] := va_S.rf
  have hP : va_P D vwCl [(d, .inr (0, [.ref dn, .ref df, .ref di, .ref dl, .ref dm, .int (zI ((nc : Nat) : Int)), .int (zI ((q + 1 : Nat) : Int))])), (df, .inr (3, [.ref dfw])), (dfw, .inl (c 2, 4 * 255, .inr (.inl fw))), (di, .inr (3, [.ref diw])), (diw, .inl (c 2, 4 * 40, .inr (.inl iw))), (dl, .inr (3, [.ref dlw])), (dlw, .inl (c 2, 4 * 40, .inr (.inl lw))), (dm, .inl (c 1, 40, .inl (fun j => zB (mb j))))] s.heap := hP
  have hl := lv_entry ([.ref d, .int (zI 1)]) (n := 3) (Nat.le_of_ble_eq_true rfl)
  rw [lg_entry_eq]
  generalize (lg_sl ([.ref d, .int (zI 1)]) ++ List.replicate (3 - (lg_sl ([.ref d, .int (zI 1)])).length) Slot.unset).toArray = ls at hl ⊢
  have hl : lv_has ls 3 [(0, .ref d), (1, .int (zI 1))] := hl
  generalize hQ : MQ below _ _ _ _ _ _ = Q
  refine lv_aload_n hx hb d_Dr_repeatLast_0 rfl (lv_at hl 0 rfl) ?_
  refine va_get (D := D) (ci := 0) (v := .int (zI ((q + 1 : Nat) : Int))) (C := R_Dr) (T := T_Dr) (N := 7) hx hb hts (fun w h => List.mem_cons_of_mem _ (inA_Dr w h)) hown hK hP 0 rfl rfl 6 (by decide) (hw k_Dr_f34) (fun _ h9 => h9) rfl d_Dr_repeatLast_1 ?_
  refine lv_iconst (v := zI 1) hx hb d_Dr_repeatLast_4 (by decide) ?_
  refine z_isub hx hb d_Dr_repeatLast_5 ?_
  refine z_top (v2 := .int (zI ((q : Nat) : Int))) (congrArg Value.int (congrArg zI (by omega))) ?_
  refine lv_istore_n (lv' := [(2, .int (zI ((q : Nat) : Int))), (0, .ref d), (1, .int (zI 1))]) hx hb d_Dr_repeatLast_6 rfl hl (by decide) rfl (fun ls hl => ?_)
  refine lv_aload_n hx hb d_Dr_repeatLast_7 rfl (lv_at hl 1 rfl) ?_
  refine lv_iload_n hx hb d_Dr_repeatLast_8 rfl (lv_at hl 0 rfl) ?_
  have hPc : va_P D vwCl [(d, .inr (0, [.ref dn, .ref df, .ref di, .ref dl, .ref dm, .int (zI ((nc : Nat) : Int)), .int (zI (((q + 1) : Nat) : Int))])), (dm, .inl (c 1, 40, .inl (fun j => zB (mb j))))] s.heap := hP.sub (ws' := [(d, .inr (0, [.ref dn, .ref df, .ref di, .ref dl, .ref dm, .int (zI ((nc : Nat) : Int)), .int (zI (((q + 1) : Nat) : Int))])), (dm, .inl (c 1, 40, .inl (fun j => zB (mb j))))]) [0, 7] rfl
  refine vp_callSi (va_runV (rm := rm_hasPart) (As := [.int (zI ((q : Nat) : Int))]) (rest := []) ⟨hx, hb, hml, hown, hts⟩ (c_hasPart l D c d dn df dfw di diw dl dlw dm nm fw iw lw mb nc (q + 1) ((q : Nat) : Int) (by omega) (by omega)) (cwV 1 hts (gWV k_Dr_m48 k_i_Dr_hasPart k_v_Dr_hasPart k_n_Dr k_c_Dr_hasPart) rfl rfl rfl (by decide +kernel) ⟨Nat.le_of_ble_eq_true rfl, Nat.le_of_ble_eq_true rfl⟩) ⟨zblind, va_recv hK hPc (ci := 0) (q0 := 0) rfl rfl, fun U hU hW => ⟨rfl, by rw [hU]; exact hPc, hKN.moved hW⟩⟩ rfl rfl hl.1 rfl (lv_room (Nat.le_of_ble_eq_true rfl)) d_Dr_repeatLast_9 ⟨Nat.zero_le _, Nat.zero_le _⟩).run (fun r hr_1 => ?_)
  subst hr_1
  refine z_ifeq_B (tgt := 25) hx hb d_Dr_repeatLast_12 (by decide) (fun hc_12 => (absurd hc_12 (by rw [decide_eq_true (by omega)]; decide))) (fun hc_12 => ?_)
  refine lv_iload_n hx hb d_Dr_repeatLast_15 rfl (lv_at hl 2 rfl) ?_
  refine lv_iconst (v := zI 1) hx hb d_Dr_repeatLast_16 (by decide) ?_
  refine z_icmp_lt (tgt := 25) hx hb (by omega) d_Dr_repeatLast_17 (by decide) (fun hc_17 => absurd hc_17 (by omega)) (fun hc_17 => ?_)
  refine lv_iload_n hx hb d_Dr_repeatLast_20 rfl (lv_at hl 2 rfl) ?_
  refine lv_iconst (v := zI 3) hx hb d_Dr_repeatLast_21 (by decide) ?_
  refine z_icmp_le (tgt := 27) hx hb (by omega) d_Dr_repeatLast_22 (by decide) (fun hc_22 => ?_) (fun hc_22 => absurd hc_22 (by omega))
  refine lv_iload_n hx hb d_Dr_repeatLast_27 rfl (lv_at hl 2 rfl) ?_
  refine lv_iconst (v := zI 2) hx hb d_Dr_repeatLast_28 (by decide) ?_
  refine z_icmp_eq (tgt := 37) hx hb (by omega) d_Dr_repeatLast_29 (by decide) (fun hc_29 => absurd hc_29 (by omega)) (fun hc_29 => ?_)
  refine lv_iload_n hx hb d_Dr_repeatLast_32 rfl (lv_at hl 2 rfl) ?_
  refine lv_iconst (v := zI 3) hx hb d_Dr_repeatLast_33 (by decide) ?_
  refine z_icmp_ne (tgt := 43) hx hb (by omega) d_Dr_repeatLast_34 (by decide) (fun hc_34 => ?_) (fun hc_34 => absurd hc_34 (by omega))
  refine lv_iload_n hx hb d_Dr_repeatLast_43 rfl (lv_at hl 2 rfl) ?_
  refine lv_iconst (v := zI 1) hx hb d_Dr_repeatLast_44 (by decide) ?_
  refine z_icmp_eq (tgt := 53) hx hb (by omega) d_Dr_repeatLast_45 (by decide) (fun hc_45 => ?_) (fun hc_45 => absurd hc_45 (by omega))
  refine lv_aload_n hx hb d_Dr_repeatLast_53 rfl (lv_at hl 1 rfl) ?_
  refine va_get (D := D) (ci := 0) (v := .ref dm) (C := R_Dr) (T := T_Dr) (N := 7) hx hb hts (fun w h => List.mem_cons_of_mem _ (inA_Dr w h)) hown hK hP 0 rfl rfl 4 (by decide) (hw k_Dr_f30) (fun _ h9 => h9) rfl d_Dr_repeatLast_54 ?_
  refine lv_iload_n hx hb d_Dr_repeatLast_57 rfl (lv_at hl 0 rfl) ?_
  refine lv_iconst (v := zI 1) hx hb d_Dr_repeatLast_58 (by decide) ?_
  refine z_top (v2 := .int (zB true)) (congrArg Value.int (by decide)) ?_
  refine z_zast hx hb hK hP hD hS 7 1 rfl rfl (q) (by omega) (by omega) (by omega) d_Dr_repeatLast_59 (fun H locs hP hD hS => ?_)
  have hP : va_P D vwCl [(d, .inr (0, [.ref dn, .ref df, .ref di, .ref dl, .ref dm, .int (zI ((nc : Nat) : Int)), .int (zI ((q + 1 : Nat) : Int))])), (df, .inr (3, [.ref dfw])), (dfw, .inl (c 2, 4 * 255, .inr (.inl fw))), (di, .inr (3, [.ref diw])), (diw, .inl (c 2, 4 * 40, .inr (.inl iw))), (dl, .inr (3, [.ref dlw])), (dlw, .inl (c 2, 4 * 40, .inr (.inl lw))), (dm, .inl (c 1, 40, .inl (fun j => zB ((va_up mb q true) j))))] H := hP
  have hD : va_D A [(d, .inr (0, [.ref dn, .ref df, .ref di, .ref dl, .ref dm, .int (zI ((nc : Nat) : Int)), .int (zI ((q + 1 : Nat) : Int))])), (df, .inr (3, [.ref dfw])), (dfw, .inl (c 2, 4 * 255, .inr (.inl fw))), (di, .inr (3, [.ref diw])), (diw, .inl (c 2, 4 * 40, .inr (.inl iw))), (dl, .inr (3, [.ref dlw])), (dlw, .inl (c 2, 4 * 40, .inr (.inl lw))), (dm, .inl (c 1, 40, .inl (fun j => zB ((va_up mb q true) j))))] := hD
  refine lv_iconst (v := zI 1) hx hb d_Dr_repeatLast_60 (by decide) ?_
  subst hQ
  exact W.zret (ty := .boolean) (v := (zI 1)) hx hb hr (by decide) (fun t9 ht hW => ⟨⟨_, (), rfl, ⟨(by decide), trivial⟩, by show va_P _ _ _ t9.heap; rw [ht]; exact hP⟩, hS.F ht⟩) hS.2.2 d_Dr_repeatLast_61

def rm_repeatLast2 : Room := { frames := 4, cells := 0, slots := 0, locals := 88 }
set_option maxHeartbeats 4000000 in
set_option maxRecDepth 100000 in
/-- Draft.repeatLast(2) -/
theorem c_repeatLast2 (l : Launch) (D : va_G) (c : Nat → ClassId) (d : Nat) (dn : Nat) (df : Nat) (dfw : Nat) (di : Nat) (diw : Nat) (dl : Nat) (dlw : Nat) (dm : Nat) (nm : Nat → Nat) (fw : Nat → Int64) (iw : Nat → Int64) (lw : Nat → Int64) (mb : Nat → Bool) (nc : Nat) (q : Nat) (hp : q + 1 ≤ 40) (hc : nc ≤ 255) : Met l y_Dr_repeatLast w_Dr_repeatLast rm_repeatLast2 (va_Pc [.ref d, .int (zI 2)] (fun U => (va_P D vwCl [(d, .inr (0, [.ref dn, .ref df, .ref di, .ref dl, .ref dm, .int (zI ((nc : Nat) : Int)), .int (zI ((q + 1 : Nat) : Int))])), (df, .inr (3, [.ref dfw])), (dfw, .inl (c 2, 4 * 255, .inr (.inl fw))), (di, .inr (3, [.ref diw])), (diw, .inl (c 2, 4 * 40, .inr (.inl iw))), (dl, .inr (3, [.ref dlw])), (dlw, .inl (c 2, 4 * 40, .inr (.inl lw))), (dm, .inl (c 1, 40, .inl (fun j => zB (mb j))))] U.heap ∧ va_D (fun _ => True) [(d, .inr (0, [.ref dn, .ref df, .ref di, .ref dl, .ref dm, .int (zI ((nc : Nat) : Int)), .int (zI ((q + 1 : Nat) : Int))])), (df, .inr (3, [.ref dfw])), (dfw, .inl (c 2, 4 * 255, .inr (.inl fw))), (di, .inr (3, [.ref diw])), (diw, .inl (c 2, 4 * 40, .inr (.inl iw))), (dl, .inr (3, [.ref dlw])), (dlw, .inl (c 2, 4 * 40, .inr (.inl lw))), (dm, .inl (c 1, 40, .inl (fun j => zB (mb j))))]) ∧ zK D c U)) (va_Qi (fun (r : Int32) (u : Unit) => r = (zB true) ∧ True) (fun (u : Unit) t9 => va_P D vwCl [(d, .inr (0, [.ref dn, .ref df, .ref di, .ref dl, .ref dm, .int (zI ((nc : Nat) : Int)), .int (zI ((q + 1 : Nat) : Int))])), (df, .inr (3, [.ref dfw])), (dfw, .inl (c 2, 4 * 255, .inr (.inl (lfw fw iw lw q q nc)))), (di, .inr (3, [.ref diw])), (diw, .inl (c 2, 4 * 40, .inr (.inl iw))), (dl, .inr (3, [.ref dlw])), (dlw, .inl (c 2, 4 * 40, .inr (.inl lw))), (dm, .inl (c 1, 40, .inl (fun j => zB ((va_up mb q true) j))))] t9.heap) (zA [(d, .inr (0, [.ref dn, .ref df, .ref di, .ref dl, .ref dm, .int (zI ((nc : Nat) : Int)), .int (zI ((q + 1 : Nat) : Int))])), (df, .inr (3, [.ref dfw])), (dfw, .inl (c 2, 4 * 255, .inr (.inl fw))), (di, .inr (3, [.ref diw])), (diw, .inl (c 2, 4 * 40, .inr (.inl iw))), (dl, .inr (3, [.ref dlw])), (dlw, .inl (c 2, 4 * 40, .inr (.inl lw))), (dm, .inl (c 1, 40, .inl (fun j => zB (mb j))))])) 0 0 (zA [(d, .inr (0, [.ref dn, .ref df, .ref di, .ref dl, .ref dm, .int (zI ((nc : Nat) : Int)), .int (zI ((q + 1 : Nat) : Int))])), (df, .inr (3, [.ref dfw])), (dfw, .inl (c 2, 4 * 255, .inr (.inl fw))), (di, .inr (3, [.ref diw])), (diw, .inl (c 2, 4 * 40, .inr (.inl iw))), (dl, .inr (3, [.ref dlw])), (dlw, .inl (c 2, 4 * 40, .inr (.inl lw))), (dm, .inl (c 1, 40, .inl (fun j => zB (mb j))))]) := by
  refine Met.ofW (cc := b_Dr_repeatLast) (maxL := 3) (ret := (some .boolean)) (by decide) rfl ?_
  intro p e s m args below meth c0 s₁ B hml hv
  obtain ⟨rfl, ⟨hP, hD0⟩, hKN⟩ := hv
  have hK := hKN.1
  have hN := hKN.2
  have hx := B.exec
  have hb := B.bytes
  have hr := B.returns
  have hts := atoms_spec (ws := w_Dr_repeatLast) B.pre
  have hw : ∀ {w : Cond}, w ∈ ALLW → w.before _ s = true := fun h => hts _ (List.mem_cons_of_mem _ h)
  have hown : s.vm.findClass R_Dr = some m.cls := findClass_of_methodNamed B.named
  have hlocks := B.notSynchronized
  have hD : va_D (zA [(d, .inr (0, [.ref dn, .ref df, .ref di, .ref dl, .ref dm, .int (zI ((nc : Nat) : Int)), .int (zI ((q + 1 : Nat) : Int))])), (df, .inr (3, [.ref dfw])), (dfw, .inl (c 2, 4 * 255, .inr (.inl fw))), (di, .inr (3, [.ref diw])), (diw, .inl (c 2, 4 * 40, .inr (.inl iw))), (dl, .inr (3, [.ref dlw])), (dlw, .inl (c 2, 4 * 40, .inr (.inl lw))), (dm, .inl (c 1, 40, .inl (fun j => zB (mb j))))]) [(d, .inr (0, [.ref dn, .ref df, .ref di, .ref dl, .ref dm, .int (zI ((nc : Nat) : Int)), .int (zI ((q + 1 : Nat) : Int))])), (df, .inr (3, [.ref dfw])), (dfw, .inl (c 2, 4 * 255, .inr (.inl fw))), (di, .inr (3, [.ref diw])), (diw, .inl (c 2, 4 * 40, .inr (.inl iw))), (dl, .inr (3, [.ref dlw])), (dlw, .inl (c 2, 4 * 40, .inr (.inl lw))), (dm, .inl (c 1, 40, .inl (fun j => zB (mb j))))] := ⟨hD0.1, fun k q h => List.mem_map.mpr ⟨q, List.mem_of_getElem? h, rfl⟩⟩
  generalize hAe : zA [(d, .inr (0, [.ref dn, .ref df, .ref di, .ref dl, .ref dm, .int (zI ((nc : Nat) : Int)), .int (zI ((q + 1 : Nat) : Int))])), (df, .inr (3, [.ref dfw])), (dfw, .inl (c 2, 4 * 255, .inr (.inl fw))), (di, .inr (3, [.ref diw])), (diw, .inl (c 2, 4 * 40, .inr (.inl iw))), (dl, .inr (3, [.ref dlw])), (dlw, .inl (c 2, 4 * 40, .inr (.inl lw))), (dm, .inl (c 1, 40, .inl (fun j => zB (mb j))))] = A at hD ⊢
  have hS : va_S A s.heap s.heap [] := va_S.rf
  have hP : va_P D vwCl [(d, .inr (0, [.ref dn, .ref df, .ref di, .ref dl, .ref dm, .int (zI ((nc : Nat) : Int)), .int (zI ((q + 1 : Nat) : Int))])), (df, .inr (3, [.ref dfw])), (dfw, .inl (c 2, 4 * 255, .inr (.inl fw))), (di, .inr (3, [.ref diw])), (diw, .inl (c 2, 4 * 40, .inr (.inl iw))), (dl, .inr (3, [.ref dlw])), (dlw, .inl (c 2, 4 * 40, .inr (.inl lw))), (dm, .inl (c 1, 40, .inl (fun j => zB (mb j))))] s.heap := hP
  have hl := lv_entry ([.ref d, .int (zI 2)]) (n := 3) (Nat.le_of_ble_eq_true rfl)
  rw [lg_entry_eq]
  generalize (lg_sl ([.ref d, .int (zI 2)]) ++ List.replicate (3 - (lg_sl ([.ref d, .int (zI 2)])).length) Slot.unset).toArray = ls at hl ⊢
  have hl : lv_has ls 3 [(0, .ref d), (1, .int (zI 2))] := hl
  generalize hQ : MQ below _ _ _ _ _ _ = Q
  refine lv_aload_n hx hb d_Dr_repeatLast_0 rfl (lv_at hl 0 rfl) ?_
  refine va_get (D := D) (ci := 0) (v := .int (zI ((q + 1 : Nat) : Int))) (C := R_Dr) (T := T_Dr) (N := 7) hx hb hts (fun w h => List.mem_cons_of_mem _ (inA_Dr w h)) hown hK hP 0 rfl rfl 6 (by decide) (hw k_Dr_f34) (fun _ h9 => h9) rfl d_Dr_repeatLast_1 ?_
  refine lv_iconst (v := zI 1) hx hb d_Dr_repeatLast_4 (by decide) ?_
  refine z_isub hx hb d_Dr_repeatLast_5 ?_
  refine z_top (v2 := .int (zI ((q : Nat) : Int))) (congrArg Value.int (congrArg zI (by omega))) ?_
  refine lv_istore_n (lv' := [(2, .int (zI ((q : Nat) : Int))), (0, .ref d), (1, .int (zI 2))]) hx hb d_Dr_repeatLast_6 rfl hl (by decide) rfl (fun ls hl => ?_)
  refine lv_aload_n hx hb d_Dr_repeatLast_7 rfl (lv_at hl 1 rfl) ?_
  refine lv_iload_n hx hb d_Dr_repeatLast_8 rfl (lv_at hl 0 rfl) ?_
  have hPc : va_P D vwCl [(d, .inr (0, [.ref dn, .ref df, .ref di, .ref dl, .ref dm, .int (zI ((nc : Nat) : Int)), .int (zI (((q + 1) : Nat) : Int))])), (dm, .inl (c 1, 40, .inl (fun j => zB (mb j))))] s.heap := hP.sub (ws' := [(d, .inr (0, [.ref dn, .ref df, .ref di, .ref dl, .ref dm, .int (zI ((nc : Nat) : Int)), .int (zI (((q + 1) : Nat) : Int))])), (dm, .inl (c 1, 40, .inl (fun j => zB (mb j))))]) [0, 7] rfl
  refine vp_callSi (va_runV (rm := rm_hasPart) (As := [.int (zI ((q : Nat) : Int))]) (rest := []) ⟨hx, hb, hml, hown, hts⟩ (c_hasPart l D c d dn df dfw di diw dl dlw dm nm fw iw lw mb nc (q + 1) ((q : Nat) : Int) (by omega) (by omega)) (cwV 1 hts (gWV k_Dr_m48 k_i_Dr_hasPart k_v_Dr_hasPart k_n_Dr k_c_Dr_hasPart) rfl rfl rfl (by decide +kernel) ⟨Nat.le_of_ble_eq_true rfl, Nat.le_of_ble_eq_true rfl⟩) ⟨zblind, va_recv hK hPc (ci := 0) (q0 := 0) rfl rfl, fun U hU hW => ⟨rfl, by rw [hU]; exact hPc, hKN.moved hW⟩⟩ rfl rfl hl.1 rfl (lv_room (Nat.le_of_ble_eq_true rfl)) d_Dr_repeatLast_9 ⟨Nat.zero_le _, Nat.zero_le _⟩).run (fun r hr_1 => ?_)
  subst hr_1
  refine z_ifeq_B (tgt := 25) hx hb d_Dr_repeatLast_12 (by decide) (fun hc_12 => (absurd hc_12 (by rw [decide_eq_true (by omega)]; decide))) (fun hc_12 => ?_)
  refine lv_iload_n hx hb d_Dr_repeatLast_15 rfl (lv_at hl 2 rfl) ?_
  refine lv_iconst (v := zI 1) hx hb d_Dr_repeatLast_16 (by decide) ?_
  refine z_icmp_lt (tgt := 25) hx hb (by omega) d_Dr_repeatLast_17 (by decide) (fun hc_17 => absurd hc_17 (by omega)) (fun hc_17 => ?_)
  refine lv_iload_n hx hb d_Dr_repeatLast_20 rfl (lv_at hl 2 rfl) ?_
  refine lv_iconst (v := zI 3) hx hb d_Dr_repeatLast_21 (by decide) ?_
  refine z_icmp_le (tgt := 27) hx hb (by omega) d_Dr_repeatLast_22 (by decide) (fun hc_22 => ?_) (fun hc_22 => absurd hc_22 (by omega))
  refine lv_iload_n hx hb d_Dr_repeatLast_27 rfl (lv_at hl 2 rfl) ?_
  refine lv_iconst (v := zI 2) hx hb d_Dr_repeatLast_28 (by decide) ?_
  refine z_icmp_eq (tgt := 37) hx hb (by omega) d_Dr_repeatLast_29 (by decide) (fun hc_29 => ?_) (fun hc_29 => absurd hc_29 (by omega))
  refine lv_aload_n hx hb d_Dr_repeatLast_37 rfl (lv_at hl 1 rfl) ?_
  refine lv_iload_n hx hb d_Dr_repeatLast_38 rfl (lv_at hl 0 rfl) ?_
  refine lv_iload_n hx hb d_Dr_repeatLast_39 rfl (lv_at hl 0 rfl) ?_
  have hPc : va_P D vwCl [(d, .inr (0, [.ref dn, .ref df, .ref di, .ref dl, .ref dm, .int (zI ((nc : Nat) : Int)), .int (zI (((q + 1) : Nat) : Int))])), (df, .inr (3, [.ref dfw])), (dfw, .inl (c 2, 4 * 255, .inr (.inl fw))), (di, .inr (3, [.ref diw])), (diw, .inl (c 2, 4 * 40, .inr (.inl iw))), (dl, .inr (3, [.ref dlw])), (dlw, .inl (c 2, 4 * 40, .inr (.inl lw)))] s.heap := hP.sub (ws' := [(d, .inr (0, [.ref dn, .ref df, .ref di, .ref dl, .ref dm, .int (zI ((nc : Nat) : Int)), .int (zI (((q + 1) : Nat) : Int))])), (df, .inr (3, [.ref dfw])), (dfw, .inl (c 2, 4 * 255, .inr (.inl fw))), (di, .inr (3, [.ref diw])), (diw, .inl (c 2, 4 * 40, .inr (.inl iw))), (dl, .inr (3, [.ref dlw])), (dlw, .inl (c 2, 4 * 40, .inr (.inl lw)))]) [0, 1, 2, 3, 4, 5, 6] rfl
  have hDc : va_D A [(d, .inr (0, [.ref dn, .ref df, .ref di, .ref dl, .ref dm, .int (zI ((nc : Nat) : Int)), .int (zI (((q + 1) : Nat) : Int))])), (df, .inr (3, [.ref dfw])), (dfw, .inl (c 2, 4 * 255, .inr (.inl fw))), (di, .inr (3, [.ref diw])), (diw, .inl (c 2, 4 * 40, .inr (.inl iw))), (dl, .inr (3, [.ref dlw])), (dlw, .inl (c 2, 4 * 40, .inr (.inl lw)))] := hD.sub (ws' := [(d, .inr (0, [.ref dn, .ref df, .ref di, .ref dl, .ref dm, .int (zI ((nc : Nat) : Int)), .int (zI (((q + 1) : Nat) : Int))])), (df, .inr (3, [.ref dfw])), (dfw, .inl (c 2, 4 * 255, .inr (.inl fw))), (di, .inr (3, [.ref diw])), (diw, .inl (c 2, 4 * 40, .inr (.inl iw))), (dl, .inr (3, [.ref dlw])), (dlw, .inl (c 2, 4 * 40, .inr (.inl lw)))]) [0, 1, 2, 3, 4, 5, 6] (by decide) rfl
  have hDt : va_D (fun _ => True) [(d, .inr (0, [.ref dn, .ref df, .ref di, .ref dl, .ref dm, .int (zI ((nc : Nat) : Int)), .int (zI (((q + 1) : Nat) : Int))])), (df, .inr (3, [.ref dfw])), (dfw, .inl (c 2, 4 * 255, .inr (.inl fw))), (di, .inr (3, [.ref diw])), (diw, .inl (c 2, 4 * 40, .inr (.inl iw))), (dl, .inr (3, [.ref dlw])), (dlw, .inl (c 2, 4 * 40, .inr (.inl lw)))] := hDc.weaken (fun _ _ _ _ => trivial)
  refine z_callv (S := Unit) (w1 := fun u => [(d, .inr (0, [.ref dn, .ref df, .ref di, .ref dl, .ref dm, .int (zI ((nc : Nat) : Int)), .int (zI (((q + 1) : Nat) : Int))])), (df, .inr (3, [.ref dfw])), (dfw, .inl (c 2, 4 * 255, .inr (.inl (lfw fw iw lw q q nc)))), (di, .inr (3, [.ref diw])), (diw, .inl (c 2, 4 * 40, .inr (.inl iw))), (dl, .inr (3, [.ref dlw])), (dlw, .inl (c 2, 4 * 40, .inr (.inl lw)))]) (post := fun u => True) (wc := [(d, .inr (0, [.ref dn, .ref df, .ref di, .ref dl, .ref dm, .int (zI ((nc : Nat) : Int)), .int (zI (((q + 1) : Nat) : Int))])), (df, .inr (3, [.ref dfw])), (dfw, .inl (c 2, 4 * 255, .inr (.inl fw))), (di, .inr (3, [.ref diw])), (diw, .inl (c 2, 4 * 40, .inr (.inl iw))), (dl, .inr (3, [.ref dlw])), (dlw, .inl (c 2, 4 * 40, .inr (.inl lw)))]) [0, 1, 2, 3, 4, 5, 6] rfl (fun _ => rfl) hP hD hS (va_runV (rm := rm_letFollow) (As := [.int (zI ((q : Nat) : Int)), .int (zI ((q : Nat) : Int))]) (rest := []) ⟨hx, hb, hml, hown, hts⟩ (c_letFollow l D c d dn df dfw di diw dl dlw dm nm fw iw lw mb nc (q + 1) q q (by omega) (by omega) (by omega)) (cwV 2 hts (gWV k_Dr_m52 k_i_Dr_letFollow k_v_Dr_letFollow k_n_Dr k_c_Dr_letFollow) rfl rfl rfl (by decide +kernel) ⟨Nat.le_of_ble_eq_true rfl, Nat.le_of_ble_eq_true rfl⟩) ⟨zblindW, va_recv hK hPc (ci := 0) (q0 := 0) rfl rfl, fun U hU hW => ⟨rfl, ⟨by rw [hU]; exact hPc, hDt⟩, hKN.moved hW⟩⟩ rfl rfl hl.1 rfl (lv_room (Nat.le_of_ble_eq_true rfl)) d_Dr_repeatLast_40 ⟨Nat.zero_le _, Nat.zero_le _⟩) (fun u H locs hp_2 hP hD hS => ?_)
  have hP : va_P D vwCl [(d, .inr (0, [.ref dn, .ref df, .ref di, .ref dl, .ref dm, .int (zI ((nc : Nat) : Int)), .int (zI (((q + 1) : Nat) : Int))])), (df, .inr (3, [.ref dfw])), (dfw, .inl (c 2, 4 * 255, .inr (.inl (lfw fw iw lw q q nc)))), (di, .inr (3, [.ref diw])), (diw, .inl (c 2, 4 * 40, .inr (.inl iw))), (dl, .inr (3, [.ref dlw])), (dlw, .inl (c 2, 4 * 40, .inr (.inl lw))), (dm, .inl (c 1, 40, .inl (fun j => zB (mb j))))] H := hP
  have hD : va_D A [(d, .inr (0, [.ref dn, .ref df, .ref di, .ref dl, .ref dm, .int (zI ((nc : Nat) : Int)), .int (zI (((q + 1) : Nat) : Int))])), (df, .inr (3, [.ref dfw])), (dfw, .inl (c 2, 4 * 255, .inr (.inl (lfw fw iw lw q q nc)))), (di, .inr (3, [.ref diw])), (diw, .inl (c 2, 4 * 40, .inr (.inl iw))), (dl, .inr (3, [.ref dlw])), (dlw, .inl (c 2, 4 * 40, .inr (.inl lw))), (dm, .inl (c 1, 40, .inl (fun j => zB (mb j))))] := hD
  refine lv_iload_n hx hb d_Dr_repeatLast_43 rfl (lv_at hl 2 rfl) ?_
  refine lv_iconst (v := zI 1) hx hb d_Dr_repeatLast_44 (by decide) ?_
  refine z_icmp_eq (tgt := 53) hx hb (by omega) d_Dr_repeatLast_45 (by decide) (fun hc_45 => absurd hc_45 (by omega)) (fun hc_45 => ?_)
  refine lv_iload_n hx hb d_Dr_repeatLast_48 rfl (lv_at hl 2 rfl) ?_
  refine lv_iconst (v := zI 2) hx hb d_Dr_repeatLast_49 (by decide) ?_
  refine z_icmp_ne (tgt := 60) hx hb (by omega) d_Dr_repeatLast_50 (by decide) (fun hc_50 => absurd hc_50 (by omega)) (fun hc_50 => ?_)
  refine lv_aload_n hx hb d_Dr_repeatLast_53 rfl (lv_at hl 1 rfl) ?_
  refine va_get (D := D) (ci := 0) (v := .ref dm) (C := R_Dr) (T := T_Dr) (N := 7) hx hb hts (fun w h => List.mem_cons_of_mem _ (inA_Dr w h)) hown hK hP 0 rfl rfl 4 (by decide) (hw k_Dr_f30) (fun _ h9 => h9) rfl d_Dr_repeatLast_54 ?_
  refine lv_iload_n hx hb d_Dr_repeatLast_57 rfl (lv_at hl 0 rfl) ?_
  refine lv_iconst (v := zI 1) hx hb d_Dr_repeatLast_58 (by decide) ?_
  refine z_top (v2 := .int (zB true)) (congrArg Value.int (by decide)) ?_
  refine z_zast hx hb hK hP hD hS 7 1 rfl rfl (q) (by omega) (by omega) (by omega) d_Dr_repeatLast_59 (fun H locs hP hD hS => ?_)
  have hP : va_P D vwCl [(d, .inr (0, [.ref dn, .ref df, .ref di, .ref dl, .ref dm, .int (zI ((nc : Nat) : Int)), .int (zI (((q + 1) : Nat) : Int))])), (df, .inr (3, [.ref dfw])), (dfw, .inl (c 2, 4 * 255, .inr (.inl (lfw fw iw lw q q nc)))), (di, .inr (3, [.ref diw])), (diw, .inl (c 2, 4 * 40, .inr (.inl iw))), (dl, .inr (3, [.ref dlw])), (dlw, .inl (c 2, 4 * 40, .inr (.inl lw))), (dm, .inl (c 1, 40, .inl (fun j => zB ((va_up mb q true) j))))] H := hP
  have hD : va_D A [(d, .inr (0, [.ref dn, .ref df, .ref di, .ref dl, .ref dm, .int (zI ((nc : Nat) : Int)), .int (zI (((q + 1) : Nat) : Int))])), (df, .inr (3, [.ref dfw])), (dfw, .inl (c 2, 4 * 255, .inr (.inl (lfw fw iw lw q q nc)))), (di, .inr (3, [.ref diw])), (diw, .inl (c 2, 4 * 40, .inr (.inl iw))), (dl, .inr (3, [.ref dlw])), (dlw, .inl (c 2, 4 * 40, .inr (.inl lw))), (dm, .inl (c 1, 40, .inl (fun j => zB ((va_up mb q true) j))))] := hD
  refine lv_iconst (v := zI 1) hx hb d_Dr_repeatLast_60 (by decide) ?_
  subst hQ
  exact W.zret (ty := .boolean) (v := (zI 1)) hx hb hr (by decide) (fun t9 ht hW => ⟨⟨_, (), rfl, ⟨(by decide), trivial⟩, by show va_P _ _ _ t9.heap; rw [ht]; exact hP⟩, hS.F ht⟩) hS.2.2 d_Dr_repeatLast_61

def rm_repeatLast3 : Room := { frames := 4, cells := 0, slots := 0, locals := 88 }
set_option maxHeartbeats 4000000 in
set_option maxRecDepth 100000 in
/-- Draft.repeatLast(3) -/
theorem c_repeatLast3 (l : Launch) (D : va_G) (c : Nat → ClassId) (d : Nat) (dn : Nat) (df : Nat) (dfw : Nat) (di : Nat) (diw : Nat) (dl : Nat) (dlw : Nat) (dm : Nat) (nm : Nat → Nat) (fw : Nat → Int64) (iw : Nat → Int64) (lw : Nat → Int64) (mb : Nat → Bool) (nc : Nat) (q : Nat) (hp : q + 1 ≤ 40) (hc : nc ≤ 255) : Met l y_Dr_repeatLast w_Dr_repeatLast rm_repeatLast3 (va_Pc [.ref d, .int (zI 3)] (fun U => (va_P D vwCl [(d, .inr (0, [.ref dn, .ref df, .ref di, .ref dl, .ref dm, .int (zI ((nc : Nat) : Int)), .int (zI ((q + 1 : Nat) : Int))])), (df, .inr (3, [.ref dfw])), (dfw, .inl (c 2, 4 * 255, .inr (.inl fw))), (di, .inr (3, [.ref diw])), (diw, .inl (c 2, 4 * 40, .inr (.inl iw))), (dl, .inr (3, [.ref dlw])), (dlw, .inl (c 2, 4 * 40, .inr (.inl lw))), (dm, .inl (c 1, 40, .inl (fun j => zB (mb j))))] U.heap ∧ va_D (fun _ => True) [(d, .inr (0, [.ref dn, .ref df, .ref di, .ref dl, .ref dm, .int (zI ((nc : Nat) : Int)), .int (zI ((q + 1 : Nat) : Int))])), (df, .inr (3, [.ref dfw])), (dfw, .inl (c 2, 4 * 255, .inr (.inl fw))), (di, .inr (3, [.ref diw])), (diw, .inl (c 2, 4 * 40, .inr (.inl iw))), (dl, .inr (3, [.ref dlw])), (dlw, .inl (c 2, 4 * 40, .inr (.inl lw))), (dm, .inl (c 1, 40, .inl (fun j => zB (mb j))))]) ∧ zK D c U)) (va_Qi (fun (r : Int32) (u : Unit) => r = (zB true) ∧ True) (fun (u : Unit) t9 => va_P D vwCl [(d, .inr (0, [.ref dn, .ref df, .ref di, .ref dl, .ref dm, .int (zI ((nc : Nat) : Int)), .int (zI ((q + 1 : Nat) : Int))])), (df, .inr (3, [.ref dfw])), (dfw, .inl (c 2, 4 * 255, .inr (.inl (lfw fw iw lw q q nc)))), (di, .inr (3, [.ref diw])), (diw, .inl (c 2, 4 * 40, .inr (.inl iw))), (dl, .inr (3, [.ref dlw])), (dlw, .inl (c 2, 4 * 40, .inr (.inl lw))), (dm, .inl (c 1, 40, .inl (fun j => zB (mb j))))] t9.heap) (zA [(d, .inr (0, [.ref dn, .ref df, .ref di, .ref dl, .ref dm, .int (zI ((nc : Nat) : Int)), .int (zI ((q + 1 : Nat) : Int))])), (df, .inr (3, [.ref dfw])), (dfw, .inl (c 2, 4 * 255, .inr (.inl fw))), (di, .inr (3, [.ref diw])), (diw, .inl (c 2, 4 * 40, .inr (.inl iw))), (dl, .inr (3, [.ref dlw])), (dlw, .inl (c 2, 4 * 40, .inr (.inl lw))), (dm, .inl (c 1, 40, .inl (fun j => zB (mb j))))])) 0 0 (zA [(d, .inr (0, [.ref dn, .ref df, .ref di, .ref dl, .ref dm, .int (zI ((nc : Nat) : Int)), .int (zI ((q + 1 : Nat) : Int))])), (df, .inr (3, [.ref dfw])), (dfw, .inl (c 2, 4 * 255, .inr (.inl fw))), (di, .inr (3, [.ref diw])), (diw, .inl (c 2, 4 * 40, .inr (.inl iw))), (dl, .inr (3, [.ref dlw])), (dlw, .inl (c 2, 4 * 40, .inr (.inl lw))), (dm, .inl (c 1, 40, .inl (fun j => zB (mb j))))]) := by
  refine Met.ofW (cc := b_Dr_repeatLast) (maxL := 3) (ret := (some .boolean)) (by decide) rfl ?_
  intro p e s m args below meth c0 s₁ B hml hv
  obtain ⟨rfl, ⟨hP, hD0⟩, hKN⟩ := hv
  have hK := hKN.1
  have hN := hKN.2
  have hx := B.exec
  have hb := B.bytes
  have hr := B.returns
  have hts := atoms_spec (ws := w_Dr_repeatLast) B.pre
  have hw : ∀ {w : Cond}, w ∈ ALLW → w.before _ s = true := fun h => hts _ (List.mem_cons_of_mem _ h)
  have hown : s.vm.findClass R_Dr = some m.cls := findClass_of_methodNamed B.named
  have hlocks := B.notSynchronized
  have hD : va_D (zA [(d, .inr (0, [.ref dn, .ref df, .ref di, .ref dl, .ref dm, .int (zI ((nc : Nat) : Int)), .int (zI ((q + 1 : Nat) : Int))])), (df, .inr (3, [.ref dfw])), (dfw, .inl (c 2, 4 * 255, .inr (.inl fw))), (di, .inr (3, [.ref diw])), (diw, .inl (c 2, 4 * 40, .inr (.inl iw))), (dl, .inr (3, [.ref dlw])), (dlw, .inl (c 2, 4 * 40, .inr (.inl lw))), (dm, .inl (c 1, 40, .inl (fun j => zB (mb j))))]) [(d, .inr (0, [.ref dn, .ref df, .ref di, .ref dl, .ref dm, .int (zI ((nc : Nat) : Int)), .int (zI ((q + 1 : Nat) : Int))])), (df, .inr (3, [.ref dfw])), (dfw, .inl (c 2, 4 * 255, .inr (.inl fw))), (di, .inr (3, [.ref diw])), (diw, .inl (c 2, 4 * 40, .inr (.inl iw))), (dl, .inr (3, [.ref dlw])), (dlw, .inl (c 2, 4 * 40, .inr (.inl lw))), (dm, .inl (c 1, 40, .inl (fun j => zB (mb j))))] := ⟨hD0.1, fun k q h => List.mem_map.mpr ⟨q, List.mem_of_getElem? h, rfl⟩⟩
  generalize hAe : zA [(d, .inr (0, [.ref dn, .ref df, .ref di, .ref dl, .ref dm, .int (zI ((nc : Nat) : Int)), .int (zI ((q + 1 : Nat) : Int))])), (df, .inr (3, [.ref dfw])), (dfw, .inl (c 2, 4 * 255, .inr (.inl fw))), (di, .inr (3, [.ref diw])), (diw, .inl (c 2, 4 * 40, .inr (.inl iw))), (dl, .inr (3, [.ref dlw])), (dlw, .inl (c 2, 4 * 40, .inr (.inl lw))), (dm, .inl (c 1, 40, .inl (fun j => zB (mb j))))] = A at hD ⊢
  have hS : va_S A s.heap s.heap [] := va_S.rf
  have hP : va_P D vwCl [(d, .inr (0, [.ref dn, .ref df, .ref di, .ref dl, .ref dm, .int (zI ((nc : Nat) : Int)), .int (zI ((q + 1 : Nat) : Int))])), (df, .inr (3, [.ref dfw])), (dfw, .inl (c 2, 4 * 255, .inr (.inl fw))), (di, .inr (3, [.ref diw])), (diw, .inl (c 2, 4 * 40, .inr (.inl iw))), (dl, .inr (3, [.ref dlw])), (dlw, .inl (c 2, 4 * 40, .inr (.inl lw))), (dm, .inl (c 1, 40, .inl (fun j => zB (mb j))))] s.heap := hP
  have hl := lv_entry ([.ref d, .int (zI 3)]) (n := 3) (Nat.le_of_ble_eq_true rfl)
  rw [lg_entry_eq]
  generalize (lg_sl ([.ref d, .int (zI 3)]) ++ List.replicate (3 - (lg_sl ([.ref d, .int (zI 3)])).length) Slot.unset).toArray = ls at hl ⊢
  have hl : lv_has ls 3 [(0, .ref d), (1, .int (zI 3))] := hl
  generalize hQ : MQ below _ _ _ _ _ _ = Q
  refine lv_aload_n hx hb d_Dr_repeatLast_0 rfl (lv_at hl 0 rfl) ?_
  refine va_get (D := D) (ci := 0) (v := .int (zI ((q + 1 : Nat) : Int))) (C := R_Dr) (T := T_Dr) (N := 7) hx hb hts (fun w h => List.mem_cons_of_mem _ (inA_Dr w h)) hown hK hP 0 rfl rfl 6 (by decide) (hw k_Dr_f34) (fun _ h9 => h9) rfl d_Dr_repeatLast_1 ?_
  refine lv_iconst (v := zI 1) hx hb d_Dr_repeatLast_4 (by decide) ?_
  refine z_isub hx hb d_Dr_repeatLast_5 ?_
  refine z_top (v2 := .int (zI ((q : Nat) : Int))) (congrArg Value.int (congrArg zI (by omega))) ?_
  refine lv_istore_n (lv' := [(2, .int (zI ((q : Nat) : Int))), (0, .ref d), (1, .int (zI 3))]) hx hb d_Dr_repeatLast_6 rfl hl (by decide) rfl (fun ls hl => ?_)
  refine lv_aload_n hx hb d_Dr_repeatLast_7 rfl (lv_at hl 1 rfl) ?_
  refine lv_iload_n hx hb d_Dr_repeatLast_8 rfl (lv_at hl 0 rfl) ?_
  have hPc : va_P D vwCl [(d, .inr (0, [.ref dn, .ref df, .ref di, .ref dl, .ref dm, .int (zI ((nc : Nat) : Int)), .int (zI (((q + 1) : Nat) : Int))])), (dm, .inl (c 1, 40, .inl (fun j => zB (mb j))))] s.heap := hP.sub (ws' := [(d, .inr (0, [.ref dn, .ref df, .ref di, .ref dl, .ref dm, .int (zI ((nc : Nat) : Int)), .int (zI (((q + 1) : Nat) : Int))])), (dm, .inl (c 1, 40, .inl (fun j => zB (mb j))))]) [0, 7] rfl
  refine vp_callSi (va_runV (rm := rm_hasPart) (As := [.int (zI ((q : Nat) : Int))]) (rest := []) ⟨hx, hb, hml, hown, hts⟩ (c_hasPart l D c d dn df dfw di diw dl dlw dm nm fw iw lw mb nc (q + 1) ((q : Nat) : Int) (by omega) (by omega)) (cwV 1 hts (gWV k_Dr_m48 k_i_Dr_hasPart k_v_Dr_hasPart k_n_Dr k_c_Dr_hasPart) rfl rfl rfl (by decide +kernel) ⟨Nat.le_of_ble_eq_true rfl, Nat.le_of_ble_eq_true rfl⟩) ⟨zblind, va_recv hK hPc (ci := 0) (q0 := 0) rfl rfl, fun U hU hW => ⟨rfl, by rw [hU]; exact hPc, hKN.moved hW⟩⟩ rfl rfl hl.1 rfl (lv_room (Nat.le_of_ble_eq_true rfl)) d_Dr_repeatLast_9 ⟨Nat.zero_le _, Nat.zero_le _⟩).run (fun r hr_1 => ?_)
  subst hr_1
  refine z_ifeq_B (tgt := 25) hx hb d_Dr_repeatLast_12 (by decide) (fun hc_12 => (absurd hc_12 (by rw [decide_eq_true (by omega)]; decide))) (fun hc_12 => ?_)
  refine lv_iload_n hx hb d_Dr_repeatLast_15 rfl (lv_at hl 2 rfl) ?_
  refine lv_iconst (v := zI 1) hx hb d_Dr_repeatLast_16 (by decide) ?_
  refine z_icmp_lt (tgt := 25) hx hb (by omega) d_Dr_repeatLast_17 (by decide) (fun hc_17 => absurd hc_17 (by omega)) (fun hc_17 => ?_)
  refine lv_iload_n hx hb d_Dr_repeatLast_20 rfl (lv_at hl 2 rfl) ?_
  refine lv_iconst (v := zI 3) hx hb d_Dr_repeatLast_21 (by decide) ?_
  refine z_icmp_le (tgt := 27) hx hb (by omega) d_Dr_repeatLast_22 (by decide) (fun hc_22 => ?_) (fun hc_22 => absurd hc_22 (by omega))
  refine lv_iload_n hx hb d_Dr_repeatLast_27 rfl (lv_at hl 2 rfl) ?_
  refine lv_iconst (v := zI 2) hx hb d_Dr_repeatLast_28 (by decide) ?_
  refine z_icmp_eq (tgt := 37) hx hb (by omega) d_Dr_repeatLast_29 (by decide) (fun hc_29 => absurd hc_29 (by omega)) (fun hc_29 => ?_)
  refine lv_iload_n hx hb d_Dr_repeatLast_32 rfl (lv_at hl 2 rfl) ?_
  refine lv_iconst (v := zI 3) hx hb d_Dr_repeatLast_33 (by decide) ?_
  refine z_icmp_ne (tgt := 43) hx hb (by omega) d_Dr_repeatLast_34 (by decide) (fun hc_34 => absurd hc_34 (by omega)) (fun hc_34 => ?_)
  refine lv_aload_n hx hb d_Dr_repeatLast_37 rfl (lv_at hl 1 rfl) ?_
  refine lv_iload_n hx hb d_Dr_repeatLast_38 rfl (lv_at hl 0 rfl) ?_
  refine lv_iload_n hx hb d_Dr_repeatLast_39 rfl (lv_at hl 0 rfl) ?_
  have hPc : va_P D vwCl [(d, .inr (0, [.ref dn, .ref df, .ref di, .ref dl, .ref dm, .int (zI ((nc : Nat) : Int)), .int (zI (((q + 1) : Nat) : Int))])), (df, .inr (3, [.ref dfw])), (dfw, .inl (c 2, 4 * 255, .inr (.inl fw))), (di, .inr (3, [.ref diw])), (diw, .inl (c 2, 4 * 40, .inr (.inl iw))), (dl, .inr (3, [.ref dlw])), (dlw, .inl (c 2, 4 * 40, .inr (.inl lw)))] s.heap := hP.sub (ws' := [(d, .inr (0, [.ref dn, .ref df, .ref di, .ref dl, .ref dm, .int (zI ((nc : Nat) : Int)), .int (zI (((q + 1) : Nat) : Int))])), (df, .inr (3, [.ref dfw])), (dfw, .inl (c 2, 4 * 255, .inr (.inl fw))), (di, .inr (3, [.ref diw])), (diw, .inl (c 2, 4 * 40, .inr (.inl iw))), (dl, .inr (3, [.ref dlw])), (dlw, .inl (c 2, 4 * 40, .inr (.inl lw)))]) [0, 1, 2, 3, 4, 5, 6] rfl
  have hDc : va_D A [(d, .inr (0, [.ref dn, .ref df, .ref di, .ref dl, .ref dm, .int (zI ((nc : Nat) : Int)), .int (zI (((q + 1) : Nat) : Int))])), (df, .inr (3, [.ref dfw])), (dfw, .inl (c 2, 4 * 255, .inr (.inl fw))), (di, .inr (3, [.ref diw])), (diw, .inl (c 2, 4 * 40, .inr (.inl iw))), (dl, .inr (3, [.ref dlw])), (dlw, .inl (c 2, 4 * 40, .inr (.inl lw)))] := hD.sub (ws' := [(d, .inr (0, [.ref dn, .ref df, .ref di, .ref dl, .ref dm, .int (zI ((nc : Nat) : Int)), .int (zI (((q + 1) : Nat) : Int))])), (df, .inr (3, [.ref dfw])), (dfw, .inl (c 2, 4 * 255, .inr (.inl fw))), (di, .inr (3, [.ref diw])), (diw, .inl (c 2, 4 * 40, .inr (.inl iw))), (dl, .inr (3, [.ref dlw])), (dlw, .inl (c 2, 4 * 40, .inr (.inl lw)))]) [0, 1, 2, 3, 4, 5, 6] (by decide) rfl
  have hDt : va_D (fun _ => True) [(d, .inr (0, [.ref dn, .ref df, .ref di, .ref dl, .ref dm, .int (zI ((nc : Nat) : Int)), .int (zI (((q + 1) : Nat) : Int))])), (df, .inr (3, [.ref dfw])), (dfw, .inl (c 2, 4 * 255, .inr (.inl fw))), (di, .inr (3, [.ref diw])), (diw, .inl (c 2, 4 * 40, .inr (.inl iw))), (dl, .inr (3, [.ref dlw])), (dlw, .inl (c 2, 4 * 40, .inr (.inl lw)))] := hDc.weaken (fun _ _ _ _ => trivial)
  refine z_callv (S := Unit) (w1 := fun u => [(d, .inr (0, [.ref dn, .ref df, .ref di, .ref dl, .ref dm, .int (zI ((nc : Nat) : Int)), .int (zI (((q + 1) : Nat) : Int))])), (df, .inr (3, [.ref dfw])), (dfw, .inl (c 2, 4 * 255, .inr (.inl (lfw fw iw lw q q nc)))), (di, .inr (3, [.ref diw])), (diw, .inl (c 2, 4 * 40, .inr (.inl iw))), (dl, .inr (3, [.ref dlw])), (dlw, .inl (c 2, 4 * 40, .inr (.inl lw)))]) (post := fun u => True) (wc := [(d, .inr (0, [.ref dn, .ref df, .ref di, .ref dl, .ref dm, .int (zI ((nc : Nat) : Int)), .int (zI (((q + 1) : Nat) : Int))])), (df, .inr (3, [.ref dfw])), (dfw, .inl (c 2, 4 * 255, .inr (.inl fw))), (di, .inr (3, [.ref diw])), (diw, .inl (c 2, 4 * 40, .inr (.inl iw))), (dl, .inr (3, [.ref dlw])), (dlw, .inl (c 2, 4 * 40, .inr (.inl lw)))]) [0, 1, 2, 3, 4, 5, 6] rfl (fun _ => rfl) hP hD hS (va_runV (rm := rm_letFollow) (As := [.int (zI ((q : Nat) : Int)), .int (zI ((q : Nat) : Int))]) (rest := []) ⟨hx, hb, hml, hown, hts⟩ (c_letFollow l D c d dn df dfw di diw dl dlw dm nm fw iw lw mb nc (q + 1) q q (by omega) (by omega) (by omega)) (cwV 2 hts (gWV k_Dr_m52 k_i_Dr_letFollow k_v_Dr_letFollow k_n_Dr k_c_Dr_letFollow) rfl rfl rfl (by decide +kernel) ⟨Nat.le_of_ble_eq_true rfl, Nat.le_of_ble_eq_true rfl⟩) ⟨zblindW, va_recv hK hPc (ci := 0) (q0 := 0) rfl rfl, fun U hU hW => ⟨rfl, ⟨by rw [hU]; exact hPc, hDt⟩, hKN.moved hW⟩⟩ rfl rfl hl.1 rfl (lv_room (Nat.le_of_ble_eq_true rfl)) d_Dr_repeatLast_40 ⟨Nat.zero_le _, Nat.zero_le _⟩) (fun u H locs hp_2 hP hD hS => ?_)
  have hP : va_P D vwCl [(d, .inr (0, [.ref dn, .ref df, .ref di, .ref dl, .ref dm, .int (zI ((nc : Nat) : Int)), .int (zI (((q + 1) : Nat) : Int))])), (df, .inr (3, [.ref dfw])), (dfw, .inl (c 2, 4 * 255, .inr (.inl (lfw fw iw lw q q nc)))), (di, .inr (3, [.ref diw])), (diw, .inl (c 2, 4 * 40, .inr (.inl iw))), (dl, .inr (3, [.ref dlw])), (dlw, .inl (c 2, 4 * 40, .inr (.inl lw))), (dm, .inl (c 1, 40, .inl (fun j => zB (mb j))))] H := hP
  have hD : va_D A [(d, .inr (0, [.ref dn, .ref df, .ref di, .ref dl, .ref dm, .int (zI ((nc : Nat) : Int)), .int (zI (((q + 1) : Nat) : Int))])), (df, .inr (3, [.ref dfw])), (dfw, .inl (c 2, 4 * 255, .inr (.inl (lfw fw iw lw q q nc)))), (di, .inr (3, [.ref diw])), (diw, .inl (c 2, 4 * 40, .inr (.inl iw))), (dl, .inr (3, [.ref dlw])), (dlw, .inl (c 2, 4 * 40, .inr (.inl lw))), (dm, .inl (c 1, 40, .inl (fun j => zB (mb j))))] := hD
  refine lv_iload_n hx hb d_Dr_repeatLast_43 rfl (lv_at hl 2 rfl) ?_
  refine lv_iconst (v := zI 1) hx hb d_Dr_repeatLast_44 (by decide) ?_
  refine z_icmp_eq (tgt := 53) hx hb (by omega) d_Dr_repeatLast_45 (by decide) (fun hc_45 => absurd hc_45 (by omega)) (fun hc_45 => ?_)
  refine lv_iload_n hx hb d_Dr_repeatLast_48 rfl (lv_at hl 2 rfl) ?_
  refine lv_iconst (v := zI 2) hx hb d_Dr_repeatLast_49 (by decide) ?_
  refine z_icmp_ne (tgt := 60) hx hb (by omega) d_Dr_repeatLast_50 (by decide) (fun hc_50 => ?_) (fun hc_50 => absurd hc_50 (by omega))
  refine lv_iconst (v := zI 1) hx hb d_Dr_repeatLast_60 (by decide) ?_
  subst hQ
  exact W.zret (ty := .boolean) (v := (zI 1)) hx hb hr (by decide) (fun t9 ht hW => ⟨⟨_, (), rfl, ⟨(by decide), trivial⟩, by show va_P _ _ _ t9.heap; rw [ht]; exact hP⟩, hS.F ht⟩) hS.2.2 d_Dr_repeatLast_61
end
section
theorem z_shr8 (e : Nat) (h : e < 2147483648) : zI ((e : Nat) : Int) >>> (zI 8 &&& 31) = zI ((e / 256 : Nat) : Int) := by
  rw [zI_nat, zI_nat, pk_shrN (by omega) _ 8 (by decide)]
theorem z_and255 (e : Nat) (h : e < 2147483648) : zI ((e : Nat) : Int) &&& zI 255 = zI ((e % 256 : Nat) : Int) := by
  rw [zI_nat, zI_nat, pk_andN (by omega) 8 (by decide)]
theorem z_shl8 (x : Nat) (h : x < 2048) : zI ((x : Nat) : Int) <<< (zI 8 &&& 31) = zI ((x * 256 : Nat) : Int) := by
  rw [zI_nat, zI_nat, pk_shlN _ 8 (by decide) (by omega)]
theorem z_or8 (x o : Nat) (h : x < 2048) (ho : o < 256) : zI ((x * 256 : Nat) : Int) ||| zI ((o : Nat) : Int) = zI ((x * 256 + o : Nat) : Int) := by
  rw [zI_nat, zI_nat, zI_nat]
  apply Int32.toBitVec_inj.mp
  rw [Int32.toBitVec_or]
  apply BitVec.eq_of_toNat_eq
  rw [BitVec.toNat_or, pk_tn (by omega), pk_tn (by omega), pk_tn (by omega)]
  have h1 := Nat.shiftLeft_add_eq_or_of_lt (i := 8) (b := o) (by omega) x
  rw [Nat.shiftLeft_eq] at h1
  exact h1.symm
def twB (en : Nat → Nat) (f : Nat → Int64) (t : Nat) : Nat → Nat
  | 0 => 0
  | i + 1 => if zbt f t (en i % 256) = true then en i / 256 else twB en f t i
theorem twB_T {en : Nat → Nat} {f : Nat → Int64} {t i : Nat} (h : zbt f t (en i % 256) = true) : twB en f t (i + 1) = en i / 256 := by rw [twB, if_pos h]
theorem twB_F {en : Nat → Nat} {f : Nat → Int64} {t i : Nat} (h : zbt f t (en i % 256) = false) : twB en f t (i + 1) = twB en f t i := by rw [twB, if_neg (by rw [h]; decide)]
def twi (en : Nat → Nat) (f : Nat → Int64) (t : Nat) : Nat → Bool
  | 0 => false
  | i + 1 => twi en f t i || (zbt f t (en i % 256) && decide (en i / 256 = twB en f t i))
theorem twi_mono {en : Nat → Nat} {f : Nat → Int64} {t : Nat} : ∀ {i n : Nat}, i ≤ n → twi en f t i = true → twi en f t n = true := by
  intro i n h hi
  induction n with
  | zero => rw [show i = 0 by omega] at hi; exact hi
  | succ n ih =>
    by_cases hq : i = n + 1
    · rw [← hq]; exact hi
    · rw [twi, ih (by omega)]; rfl
def twA (en : Nat → Nat) (f : Nat → Int64) (ne : Nat) : Nat → Bool
  | 0 => false
  | i + 1 => twA en f ne i || twi en f i ne
theorem twA_mono {en : Nat → Nat} {f : Nat → Int64} {ne : Nat} : ∀ {i n : Nat}, i ≤ n → twA en f ne i = true → twA en f ne n = true := by
  intro i n h hi
  induction n with
  | zero => rw [show i = 0 by omega] at hi; exact hi
  | succ n ih =>
    by_cases hq : i = n + 1
    · rw [← hq]; exact hi
    · rw [twA, ih (by omega)]; rfl
def pbk (rv : Nat → Int64) (en : Nat → Nat) (f : Nat → Int64) (t x : Nat) : Nat → (Nat → Int64)
  | 0 => zclr rv (t + 1)
  | i + 1 => if en i / 256 = x ∧ zbt (pbk rv en f t x i) t (en i % 256) = true then zor (pbk rv en f t x i) (t + 1) f (en i % 256) else pbk rv en f t x i
theorem pbk_T {rv : Nat → Int64} {en : Nat → Nat} {f : Nat → Int64} {t x i : Nat} (h1 : en i / 256 = x) (h2 : zbt (pbk rv en f t x i) t (en i % 256) = true) : pbk rv en f t x (i + 1) = zor (pbk rv en f t x i) (t + 1) f (en i % 256) := by rw [pbk, if_pos ⟨h1, h2⟩]
theorem pbk_F {rv : Nat → Int64} {en : Nat → Nat} {f : Nat → Int64} {t x i : Nat} (h : ¬ (en i / 256 = x ∧ zbt (pbk rv en f t x i) t (en i % 256) = true)) : pbk rv en f t x (i + 1) = pbk rv en f t x i := by rw [pbk, if_neg h]
def hnm (rv : Nat → Int64) (en : Nat → Nat) (t : Nat) (x : Int) : Nat → Bool
  | 0 => false
  | i + 1 => hnm rv en t x i || (decide (((en i / 256 : Nat) : Int) = x) && zbt rv t (en i % 256))
theorem hnm_mono {rv : Nat → Int64} {en : Nat → Nat} {t : Nat} {x : Int} : ∀ {i n : Nat}, i ≤ n → hnm rv en t x i = true → hnm rv en t x n = true := by
  intro i n h hi
  induction n with
  | zero => rw [show i = 0 by omega] at hi; exact hi
  | succ n ih =>
    by_cases hq : i = n + 1
    · rw [← hq]; exact hi
    · rw [hnm, ih (by omega)]; rfl
def naB (rv : Nat → Int64) (en : Nat → Nat) (t : Nat) : Nat → Nat
  | 0 => 0
  | i + 1 => if ¬ en i / 256 = naB rv en t i ∧ zbt rv t (en i % 256) = true then en i / 256 else naB rv en t i
def naC (rv : Nat → Int64) (en : Nat → Nat) (t : Nat) : Nat → Nat
  | 0 => 0
  | i + 1 => if ¬ en i / 256 = naB rv en t i ∧ zbt rv t (en i % 256) = true then naC rv en t i + 1 else naC rv en t i
def naR (rv : Nat → Int64) (en : Nat → Nat) (t : Nat) (x : Int) : Nat → Int
  | 0 => -1
  | i + 1 => if naR rv en t x i = -1 then (if (¬ en i / 256 = naB rv en t i ∧ zbt rv t (en i % 256) = true) ∧ ((naC rv en t i : Nat) : Int) = x then ((en i / 256 : Nat) : Int) else -1) else naR rv en t x i
theorem naR_mono {rv : Nat → Int64} {en : Nat → Nat} {t : Nat} {x r : Int} (hr : ¬ r = -1) : ∀ {i n : Nat}, i ≤ n → naR rv en t x i = r → naR rv en t x n = r := by
  intro i n h hi
  induction n with
  | zero => rw [show i = 0 by omega] at hi; exact hi
  | succ n ih =>
    by_cases hq : i = n + 1
    · rw [← hq]; exact hi
    · have h1 := ih (by omega)
      rw [naR, h1, if_neg hr]

def rm_nameOf : Room := { frames := 0, cells := 0, slots := 0, locals := 0 }
set_option maxHeartbeats 4000000 in
set_option maxRecDepth 100000 in
/-- Model.nameOf -/
theorem c_nameOf (l : Launch) (D : va_G) (c : Nat → ClassId) (e_ : Nat) (he : e_ < 2147483648) : Met l y_Mo_nameOf w_Mo_nameOf rm_nameOf (va_Pc [.int (zI ((e_ : Nat) : Int))] (fun U => va_P D vwCl [] U.heap ∧ zK D c U)) (vp_Si (fun r => r = (zI ((e_ / 256 : Nat) : Int)))) 0 0 (fun _ => False) := by
  refine Met.ofW (cc := b_Mo_nameOf) (maxL := 1) (ret := (some .int)) (by decide) rfl ?_
  intro p e s m args below meth c0 s₁ B hml hv
  obtain ⟨rfl, hP, hKN⟩ := hv
  have hK := hKN.1
  have hN := hKN.2
  have hx := B.exec
  have hb := B.bytes
  have hr := B.returns
  have hts := atoms_spec (ws := w_Mo_nameOf) B.pre
  have hw : ∀ {w : Cond}, w ∈ ALLW → w.before _ s = true := fun h => hts _ (List.mem_cons_of_mem _ h)
  have hown : s.vm.findClass R_Mo = some m.cls := findClass_of_methodNamed B.named
  have hlocks := B.notSynchronized
  have hl := lv_entry ([.int (zI ((e_ : Nat) : Int))]) (n := 1) (Nat.le_of_ble_eq_true rfl)
  rw [lg_entry_eq]
  generalize (lg_sl ([.int (zI ((e_ : Nat) : Int))]) ++ List.replicate (1 - (lg_sl ([.int (zI ((e_ : Nat) : Int))])).length) Slot.unset).toArray = ls at hl ⊢
  have hl : lv_has ls 1 [(0, .int (zI ((e_ : Nat) : Int)))] := hl
  generalize hQ : MQ below _ _ _ _ _ _ = Q
  refine lv_iload_n hx hb d_Mo_nameOf_0 rfl (lv_at hl 0 rfl) ?_
  refine lv_bipush (v := zI 8) hx hb d_Mo_nameOf_1 (by decide) ?_
  refine lv_ishr hx hb d_Mo_nameOf_3 ?_
  refine z_top (v2 := .int (zI ((e_ / 256 : Nat) : Int))) (congrArg Value.int (z_shr8 _ (by omega))) ?_
  subst hQ
  exact W.iret (v := (zI ((e_ / 256 : Nat) : Int))) hx hb hr (fun t9 ht hW => ⟨_, rfl, rfl, ht⟩) (fun q hq => absurd hq List.not_mem_nil) d_Mo_nameOf_4

def rm_occurrenceOf : Room := { frames := 0, cells := 0, slots := 0, locals := 0 }
set_option maxHeartbeats 4000000 in
set_option maxRecDepth 100000 in
/-- Model.occurrenceOf -/
theorem c_occurrenceOf (l : Launch) (D : va_G) (c : Nat → ClassId) (e_ : Nat) (he : e_ < 2147483648) : Met l y_Mo_occurrenceOf w_Mo_occurrenceOf rm_occurrenceOf (va_Pc [.int (zI ((e_ : Nat) : Int))] (fun U => va_P D vwCl [] U.heap ∧ zK D c U)) (vp_Si (fun r => r = (zI ((e_ % 256 : Nat) : Int)))) 0 0 (fun _ => False) := by
  refine Met.ofW (cc := b_Mo_occurrenceOf) (maxL := 1) (ret := (some .int)) (by decide) rfl ?_
  intro p e s m args below meth c0 s₁ B hml hv
  obtain ⟨rfl, hP, hKN⟩ := hv
  have hK := hKN.1
  have hN := hKN.2
  have hx := B.exec
  have hb := B.bytes
  have hr := B.returns
  have hts := atoms_spec (ws := w_Mo_occurrenceOf) B.pre
  have hw : ∀ {w : Cond}, w ∈ ALLW → w.before _ s = true := fun h => hts _ (List.mem_cons_of_mem _ h)
  have hown : s.vm.findClass R_Mo = some m.cls := findClass_of_methodNamed B.named
  have hlocks := B.notSynchronized
  have hl := lv_entry ([.int (zI ((e_ : Nat) : Int))]) (n := 1) (Nat.le_of_ble_eq_true rfl)
  rw [lg_entry_eq]
  generalize (lg_sl ([.int (zI ((e_ : Nat) : Int))]) ++ List.replicate (1 - (lg_sl ([.int (zI ((e_ : Nat) : Int))])).length) Slot.unset).toArray = ls at hl ⊢
  have hl : lv_has ls 1 [(0, .int (zI ((e_ : Nat) : Int)))] := hl
  generalize hQ : MQ below _ _ _ _ _ _ = Q
  refine lv_iload_n hx hb d_Mo_occurrenceOf_0 rfl (lv_at hl 0 rfl) ?_
  refine lv_sipush (v := zI 255) hx hb d_Mo_occurrenceOf_1 (by decide) ?_
  refine lv_iand hx hb d_Mo_occurrenceOf_4 ?_
  refine z_top (v2 := .int (zI ((e_ % 256 : Nat) : Int))) (congrArg Value.int (z_and255 _ (by omega))) ?_
  subst hQ
  exact W.iret (v := (zI ((e_ % 256 : Nat) : Int))) hx hb hr (fun t9 ht hW => ⟨_, rfl, rfl, ht⟩) (fun q hq => absurd hq List.not_mem_nil) d_Mo_occurrenceOf_5

def rm_entry : Room := { frames := 0, cells := 0, slots := 0, locals := 0 }
set_option maxHeartbeats 4000000 in
set_option maxRecDepth 100000 in
/-- Model.entry -/
theorem c_entry (l : Launch) (D : va_G) (c : Nat → ClassId) (x : Nat) (o : Nat) (hx_ : x < 2048) (ho : o < 256) : Met l y_Mo_entry w_Mo_entry rm_entry (va_Pc [.int (zI ((x : Nat) : Int)), .int (zI ((o : Nat) : Int))] (fun U => va_P D vwCl [] U.heap ∧ zK D c U)) (vp_Si (fun r => r = (zI ((x * 256 + o : Nat) : Int)))) 0 0 (fun _ => False) := by
  refine Met.ofW (cc := b_Mo_entry) (maxL := 2) (ret := (some .int)) (by decide) rfl ?_
  intro p e s m args below meth c0 s₁ B hml hv
  obtain ⟨rfl, hP, hKN⟩ := hv
  have hK := hKN.1
  have hN := hKN.2
  have hx := B.exec
  have hb := B.bytes
  have hr := B.returns
  have hts := atoms_spec (ws := w_Mo_entry) B.pre
  have hw : ∀ {w : Cond}, w ∈ ALLW → w.before _ s = true := fun h => hts _ (List.mem_cons_of_mem _ h)
  have hown : s.vm.findClass R_Mo = some m.cls := findClass_of_methodNamed B.named
  have hlocks := B.notSynchronized
  have hl := lv_entry ([.int (zI ((x : Nat) : Int)), .int (zI ((o : Nat) : Int))]) (n := 2) (Nat.le_of_ble_eq_true rfl)
  rw [lg_entry_eq]
  generalize (lg_sl ([.int (zI ((x : Nat) : Int)), .int (zI ((o : Nat) : Int))]) ++ List.replicate (2 - (lg_sl ([.int (zI ((x : Nat) : Int)), .int (zI ((o : Nat) : Int))])).length) Slot.unset).toArray = ls at hl ⊢
  have hl : lv_has ls 2 [(0, .int (zI ((x : Nat) : Int))), (1, .int (zI ((o : Nat) : Int)))] := hl
  generalize hQ : MQ below _ _ _ _ _ _ = Q
  refine lv_iload_n hx hb d_Mo_entry_0 rfl (lv_at hl 0 rfl) ?_
  refine lv_bipush (v := zI 8) hx hb d_Mo_entry_1 (by decide) ?_
  refine lv_ishl hx hb d_Mo_entry_3 ?_
  refine z_top (v2 := .int (zI ((x * 256 : Nat) : Int))) (congrArg Value.int (z_shl8 _ (by omega))) ?_
  refine lv_iload_n hx hb d_Mo_entry_4 rfl (lv_at hl 1 rfl) ?_
  refine lv_ior hx hb d_Mo_entry_5 ?_
  refine z_top (v2 := .int (zI ((x * 256 + o : Nat) : Int))) (congrArg Value.int (z_or8 _ _ (by omega) (by omega))) ?_
  subst hQ
  exact W.iret (v := (zI ((x * 256 + o : Nat) : Int))) hx hb hr (fun t9 ht hW => ⟨_, rfl, rfl, ht⟩) (fun q hq => absurd hq List.not_mem_nil) d_Mo_entry_6

def rm_hasTwins : Room := { frames := 3, cells := 0, slots := 0, locals := 65 }
set_option maxHeartbeats 4000000 in
set_option maxRecDepth 100000 in
/-- Model.hasTwins -/
theorem c_hasTwins (l : Launch) (D : va_G) (c : Nat → ClassId) (me : Nat) (ms : Nat) (msw : Nat) (en : Nat → Nat) (ne : Nat) (mf : Nat → Int64) (t : Nat) (hne : ne ≤ 255) (hen : ∀ j, j < ne → en j < 300000) (ht : t < ne + 1) : Met l y_Mo_hasTwins w_Mo_hasTwins rm_hasTwins (va_Pc [.ref me, .ref ms, .int (zI ((t : Nat) : Int))] (fun U => va_P D vwCl [(me, .inl (c 0, ne, .inl (fun j => zI ((en j : Nat) : Int)))), (ms, .inr (3, [.ref msw])), (msw, .inl (c 2, 4 * (ne + 1), .inr (.inl mf)))] U.heap ∧ zK D c U)) (vp_Si (fun r => r = (zB (twi en mf t ne)))) 0 0 (fun _ => False) := by
  refine Met.ofW (cc := b_Mo_hasTwins) (maxL := 5) (ret := (some .boolean)) (by decide) rfl ?_
  intro p e s m args below meth c0 s₁ B hml hv
  obtain ⟨rfl, hP, hKN⟩ := hv
  have hK := hKN.1
  have hN := hKN.2
  have hx := B.exec
  have hb := B.bytes
  have hr := B.returns
  have hts := atoms_spec (ws := w_Mo_hasTwins) B.pre
  have hw : ∀ {w : Cond}, w ∈ ALLW → w.before _ s = true := fun h => hts _ (List.mem_cons_of_mem _ h)
  have hown : s.vm.findClass R_Mo = some m.cls := findClass_of_methodNamed B.named
  have hlocks := B.notSynchronized
  have hl := lv_entry ([.ref me, .ref ms, .int (zI ((t : Nat) : Int))]) (n := 5) (Nat.le_of_ble_eq_true rfl)
  rw [lg_entry_eq]
  generalize (lg_sl ([.ref me, .ref ms, .int (zI ((t : Nat) : Int))]) ++ List.replicate (5 - (lg_sl ([.ref me, .ref ms, .int (zI ((t : Nat) : Int))])).length) Slot.unset).toArray = ls at hl ⊢
  have hl : lv_has ls 5 [(0, .ref me), (1, .ref ms), (2, .int (zI ((t : Nat) : Int)))] := hl
  generalize hQ : MQ below _ _ _ _ _ _ = Q
  refine lv_iconst (v := zI 0) hx hb d_Mo_hasTwins_0 (by decide) ?_
  refine lv_istore_n (lv' := [(3, .int (zI 0)), (0, .ref me), (1, .ref ms), (2, .int (zI ((t : Nat) : Int)))]) hx hb d_Mo_hasTwins_1 rfl hl (by decide) rfl (fun ls hl => ?_)
  refine lv_iconst (v := zI 0) hx hb d_Mo_hasTwins_2 (by decide) ?_
  refine lv_istore (lv' := [(4, .int (zI 0)), (3, .int (zI 0)), (0, .ref me), (1, .ref ms), (2, .int (zI ((t : Nat) : Int)))]) hx hb d_Mo_hasTwins_3 hl (by decide) rfl (fun ls hl => ?_)
  have lp_5 : ∀ (k_ : Nat) (v : Nat), ne - v < k_ → (v ≤ ne) → (twB en mf t v < 300000) → (twi en mf t v = false) → ∀ ls : Array Slot, lv_has ls 5 [(4, .int (zI ((v : Nat) : Int))), (3, .int (zI ((twB en mf t v : Nat) : Int))), (0, .ref me), (1, .ref ms), (2, .int (zI ((t : Nat) : Int)))] → W p l e (headSpec w_Mo_hasTwins rm_hasTwins).room s m ([.ref me, .ref ms, .int (zI ((t : Nat) : Int))] : List Value).toArray below meth c0 s.heap [] 0 0 Q (F0 m 5 ls []) := by
    intro k_
    induction k_ with
    | zero => intro v hk_; exact absurd hk_ (Nat.not_lt_zero _)
    | succ k_ ih_5 =>
      intro v hk_ hv hbb htw ls hl
      refine lv_iload hx hb d_Mo_hasTwins_5 (lv_at hl 0 rfl) ?_
      refine lv_aload_n hx hb d_Mo_hasTwins_7 rfl (lv_at hl 2 rfl) ?_
      refine z_alen hx hb hK hP 0 0 rfl rfl d_Mo_hasTwins_8 ?_
      refine z_top (v2 := .int (zI ((ne : Nat) : Int))) rfl ?_
      refine z_icmp_ge (tgt := 54) hx hb (by omega) d_Mo_hasTwins_9 (by decide) (fun hc_9 => ?_) (fun hc_9 => ?_)
      · refine lv_iconst (v := zI 0) hx hb d_Mo_hasTwins_54 (by decide) ?_
        have e_ : v = ne := by omega
        rw [e_] at htw
        subst hQ
        exact W.zret (ty := .boolean) (v := (zI 0)) hx hb hr (by decide) (fun t9 ht hW => ⟨_, rfl, (by rw [htw]; decide), ht⟩) (fun q hq => absurd hq List.not_mem_nil) d_Mo_hasTwins_55
      · have hev := hen v (by omega)
        refine lv_aload_n hx hb d_Mo_hasTwins_12 rfl (lv_at hl 3 rfl) ?_
        refine lv_iload_n hx hb d_Mo_hasTwins_13 rfl (lv_at hl 4 rfl) ?_
        refine lv_aload_n hx hb d_Mo_hasTwins_14 rfl (lv_at hl 2 rfl) ?_
        refine lv_iload hx hb d_Mo_hasTwins_15 (lv_at hl 0 rfl) ?_
        refine z_uald hx hb hK hP 0 0 rfl rfl (v) (by omega) (by omega) (by omega) d_Mo_hasTwins_17 ?_
        have hPc : va_P D vwCl [] s.heap := hP.sub (ws' := []) [] rfl
        refine vp_callSi (va_runS (rm := rm_occurrenceOf) (As := [.int (zI ((en v : Nat) : Int))]) (rest := [.int (zI ((t : Nat) : Int)), .ref ms]) ⟨hx, hb, hml, hown, hts⟩ (c_occurrenceOf l D c (en v) (by omega)) (va_cwS 1 hts (gWS k_Mo_m31 k_s_Mo_occurrenceOf k_n_Mo k_c_Mo_occurrenceOf) rfl rfl rfl (by decide +kernel) ⟨Nat.le_of_ble_eq_true rfl, Nat.le_of_ble_eq_true rfl⟩) ⟨zblind, fun U hU hW => ⟨rfl, by rw [hU]; exact hPc, hKN.moved hW⟩⟩ rfl rfl hl.1 rfl (lv_room (Nat.le_of_ble_eq_true rfl)) d_Mo_hasTwins_18 ⟨Nat.zero_le _, Nat.zero_le _⟩).run (fun r hr_1 => ?_)
        subst hr_1
        have hPc : va_P D vwCl [(ms, .inr (3, [.ref msw])), (msw, .inl (c 2, 4 * (ne + 1), .inr (.inl mf)))] s.heap := hP.sub (ws' := [(ms, .inr (3, [.ref msw])), (msw, .inl (c 2, 4 * (ne + 1), .inr (.inl mf)))]) [1, 2] rfl
        refine vp_callSi (va_runV (rm := rm_holds) (As := [.int (zI ((t : Nat) : Int)), .int (zI (((en v) % 256 : Nat) : Int))]) (rest := []) ⟨hx, hb, hml, hown, hts⟩ (c_holds l D c ms msw (ne + 1) mf t (en v % 256) (by omega) (by omega) (by omega)) (cwV 2 hts (gWV k_Mo_m35 k_i_Se_holds k_v_Se_holds k_n_Se k_c_Se_holds) rfl rfl rfl (by decide +kernel) ⟨Nat.le_of_ble_eq_true rfl, Nat.le_of_ble_eq_true rfl⟩) ⟨zblind, va_recv hK hPc (ci := 3) (q0 := 0) rfl rfl, fun U hU hW => ⟨rfl, by rw [hU]; exact hPc, hKN.moved hW⟩⟩ rfl rfl hl.1 rfl (lv_room (Nat.le_of_ble_eq_true rfl)) d_Mo_hasTwins_21 ⟨Nat.zero_le _, Nat.zero_le _⟩).run (fun r hr_2 => ?_)
        subst hr_2
        refine z_ifeq_B (tgt := 48) hx hb d_Mo_hasTwins_24 (by decide) (fun hc_24 => ?_) (fun hc_24 => ?_)
        · refine lv_iinc (v := zI ((v + 1 : Nat) : Int)) (lv' := [(4, .int (zI ((v + 1 : Nat) : Int))), (3, .int (zI ((twB en mf t v : Nat) : Int))), (0, .ref me), (1, .ref ms), (2, .int (zI ((t : Nat) : Int)))]) hx hb d_Mo_hasTwins_48 hl (k := 0) rfl (z_incN _ 1) (by decide) rfl (fun ls hl => ?_)
          refine lv_goto (tgt := 5) hx hb d_Mo_hasTwins_51 (by decide) ?_
          exact ih_5 (v + 1) (by omega) (by omega) (by rw [twB_F hc_24]; exact hbb) (by rw [twi, htw, hc_24]; first | rfl | (rw [decide_eq_false (by omega)]; rfl)) _ (by rw [twB_F hc_24]; exact lv_sub hl [0, 1, 2, 3, 4] rfl)
        · refine lv_aload_n hx hb d_Mo_hasTwins_27 rfl (lv_at hl 2 rfl) ?_
          refine lv_iload hx hb d_Mo_hasTwins_28 (lv_at hl 0 rfl) ?_
          refine z_uald hx hb hK hP 0 0 rfl rfl (v) (by omega) (by omega) (by omega) d_Mo_hasTwins_30 ?_
          have hPc : va_P D vwCl [] s.heap := hP.sub (ws' := []) [] rfl
          refine vp_callSi (va_runS (rm := rm_nameOf) (As := [.int (zI ((en v : Nat) : Int))]) (rest := []) ⟨hx, hb, hml, hown, hts⟩ (c_nameOf l D c (en v) (by omega)) (va_cwS 1 hts (gWS k_Mo_m41 k_s_Mo_nameOf k_n_Mo k_c_Mo_nameOf) rfl rfl rfl (by decide +kernel) ⟨Nat.le_of_ble_eq_true rfl, Nat.le_of_ble_eq_true rfl⟩) ⟨zblind, fun U hU hW => ⟨rfl, by rw [hU]; exact hPc, hKN.moved hW⟩⟩ rfl rfl hl.1 rfl (lv_room (Nat.le_of_ble_eq_true rfl)) d_Mo_hasTwins_31 ⟨Nat.zero_le _, Nat.zero_le _⟩).run (fun r hr_3 => ?_)
          subst hr_3
          refine lv_iload_n hx hb d_Mo_hasTwins_34 rfl (lv_at hl 1 rfl) ?_
          refine z_icmp_ne (tgt := 40) hx hb (by omega) d_Mo_hasTwins_35 (by decide) (fun hc_35 => ?_) (fun hc_35 => ?_)
          · refine lv_aload_n hx hb d_Mo_hasTwins_40 rfl (lv_at hl 2 rfl) ?_
            refine lv_iload hx hb d_Mo_hasTwins_41 (lv_at hl 0 rfl) ?_
            refine z_uald hx hb hK hP 0 0 rfl rfl (v) (by omega) (by omega) (by omega) d_Mo_hasTwins_43 ?_
            have hPc : va_P D vwCl [] s.heap := hP.sub (ws' := []) [] rfl
            refine vp_callSi (va_runS (rm := rm_nameOf) (As := [.int (zI ((en v : Nat) : Int))]) (rest := []) ⟨hx, hb, hml, hown, hts⟩ (c_nameOf l D c (en v) (by omega)) (va_cwS 1 hts (gWS k_Mo_m41 k_s_Mo_nameOf k_n_Mo k_c_Mo_nameOf) rfl rfl rfl (by decide +kernel) ⟨Nat.le_of_ble_eq_true rfl, Nat.le_of_ble_eq_true rfl⟩) ⟨zblind, fun U hU hW => ⟨rfl, by rw [hU]; exact hPc, hKN.moved hW⟩⟩ rfl rfl hl.1 rfl (lv_room (Nat.le_of_ble_eq_true rfl)) d_Mo_hasTwins_44 ⟨Nat.zero_le _, Nat.zero_le _⟩).run (fun r hr_4 => ?_)
            subst hr_4
            refine lv_istore_n (lv' := [(3, .int (zI (((en v) / 256 : Nat) : Int))), (4, .int (zI ((v : Nat) : Int))), (0, .ref me), (1, .ref ms), (2, .int (zI ((t : Nat) : Int)))]) hx hb d_Mo_hasTwins_47 rfl hl (by decide) rfl (fun ls hl => ?_)
            refine lv_iinc (v := zI ((v + 1 : Nat) : Int)) (lv' := [(4, .int (zI ((v + 1 : Nat) : Int))), (3, .int (zI (((en v) / 256 : Nat) : Int))), (0, .ref me), (1, .ref ms), (2, .int (zI ((t : Nat) : Int)))]) hx hb d_Mo_hasTwins_48 hl (k := 1) rfl (z_incN _ 1) (by decide) rfl (fun ls hl => ?_)
            refine lv_goto (tgt := 5) hx hb d_Mo_hasTwins_51 (by decide) ?_
            exact ih_5 (v + 1) (by omega) (by omega) (by rw [twB_T hc_24]; omega) (by rw [twi, htw, hc_24]; first | rfl | (rw [decide_eq_false (by omega)]; rfl)) _ (by rw [twB_T hc_24]; exact lv_sub hl [0, 1, 2, 3, 4] rfl)
          · refine lv_iconst (v := zI 1) hx hb d_Mo_hasTwins_38 (by decide) ?_
            subst hQ
            exact W.zret (ty := .boolean) (v := (zI 1)) hx hb hr (by decide) (fun t9 ht hW => ⟨_, rfl, (by rw [twi_mono (i := v + 1) (by omega) (by rw [twi, hc_24, decide_eq_true (by omega)]; simp)]; decide), ht⟩) (fun q hq => absurd hq List.not_mem_nil) d_Mo_hasTwins_39
  exact lp_5 _ 0 (Nat.lt_succ_self _) (by omega) (by show 0 < 300000; omega) rfl _ (lv_sub hl [0, 1, 2, 3, 4] rfl)

def rm_hasTwinsAnywhere : Room := { frames := 4, cells := 0, slots := 0, locals := 89 }
set_option maxHeartbeats 4000000 in
set_option maxRecDepth 100000 in
/-- Model.hasTwinsAnywhere -/
theorem c_hasTwinsAnywhere (l : Launch) (D : va_G) (c : Nat → ClassId) (me : Nat) (ms : Nat) (msw : Nat) (en : Nat → Nat) (ne : Nat) (mf : Nat → Int64) (hne : ne ≤ 255) (hen : ∀ j, j < ne → en j < 300000) : Met l y_Mo_hasTwinsAnywhere w_Mo_hasTwinsAnywhere rm_hasTwinsAnywhere (va_Pc [.ref me, .ref ms] (fun U => va_P D vwCl [(me, .inl (c 0, ne, .inl (fun j => zI ((en j : Nat) : Int)))), (ms, .inr (3, [.ref msw])), (msw, .inl (c 2, 4 * (ne + 1), .inr (.inl mf)))] U.heap ∧ zK D c U)) (vp_Si (fun r => r = (zB (twA en mf ne (ne + 1))))) 0 0 (fun _ => False) := by
  refine Met.ofW (cc := b_Mo_hasTwinsAnywhere) (maxL := 3) (ret := (some .boolean)) (by decide) rfl ?_
  intro p e s m args below meth c0 s₁ B hml hv
  obtain ⟨rfl, hP, hKN⟩ := hv
  have hK := hKN.1
  have hN := hKN.2
  have hx := B.exec
  have hb := B.bytes
  have hr := B.returns
  have hts := atoms_spec (ws := w_Mo_hasTwinsAnywhere) B.pre
  have hw : ∀ {w : Cond}, w ∈ ALLW → w.before _ s = true := fun h => hts _ (List.mem_cons_of_mem _ h)
  have hown : s.vm.findClass R_Mo = some m.cls := findClass_of_methodNamed B.named
  have hlocks := B.notSynchronized
  have hl := lv_entry ([.ref me, .ref ms]) (n := 3) (Nat.le_of_ble_eq_true rfl)
  rw [lg_entry_eq]
  generalize (lg_sl ([.ref me, .ref ms]) ++ List.replicate (3 - (lg_sl ([.ref me, .ref ms])).length) Slot.unset).toArray = ls at hl ⊢
  have hl : lv_has ls 3 [(0, .ref me), (1, .ref ms)] := hl
  generalize hQ : MQ below _ _ _ _ _ _ = Q
  refine lv_iconst (v := zI 0) hx hb d_Mo_hasTwinsAnywhere_0 (by decide) ?_
  refine lv_istore_n (lv' := [(2, .int (zI 0)), (0, .ref me), (1, .ref ms)]) hx hb d_Mo_hasTwinsAnywhere_1 rfl hl (by decide) rfl (fun ls hl => ?_)
  have lp_2 : ∀ (k_ : Nat) (v : Nat), ne + 1 - v < k_ → (v ≤ ne + 1) → (twA en mf ne v = false) → ∀ ls : Array Slot, lv_has ls 3 [(2, .int (zI ((v : Nat) : Int))), (0, .ref me), (1, .ref ms)] → W p l e (headSpec w_Mo_hasTwinsAnywhere rm_hasTwinsAnywhere).room s m ([.ref me, .ref ms] : List Value).toArray below meth c0 s.heap [] 0 0 Q (F0 m 2 ls []) := by
    intro k_
    induction k_ with
    | zero => intro v hk_; exact absurd hk_ (Nat.not_lt_zero _)
    | succ k_ ih_2 =>
      intro v hk_ hv htw ls hl
      refine lv_iload_n hx hb d_Mo_hasTwinsAnywhere_2 rfl (lv_at hl 0 rfl) ?_
      refine lv_aload_n hx hb d_Mo_hasTwinsAnywhere_3 rfl (lv_at hl 1 rfl) ?_
      refine z_alen hx hb hK hP 0 0 rfl rfl d_Mo_hasTwinsAnywhere_4 ?_
      refine z_top (v2 := .int (zI ((ne : Nat) : Int))) rfl ?_
      refine z_icmp_gt (tgt := 25) hx hb (by omega) d_Mo_hasTwinsAnywhere_5 (by decide) (fun hc_5 => ?_) (fun hc_5 => ?_)
      · refine lv_iconst (v := zI 0) hx hb d_Mo_hasTwinsAnywhere_25 (by decide) ?_
        have e_ : v = ne + 1 := by omega
        rw [e_] at htw
        subst hQ
        exact W.zret (ty := .boolean) (v := (zI 0)) hx hb hr (by decide) (fun t9 ht hW => ⟨_, rfl, (by rw [htw]; decide), ht⟩) (fun q hq => absurd hq List.not_mem_nil) d_Mo_hasTwinsAnywhere_26
      · refine lv_aload_n hx hb d_Mo_hasTwinsAnywhere_8 rfl (lv_at hl 1 rfl) ?_
        refine lv_aload_n hx hb d_Mo_hasTwinsAnywhere_9 rfl (lv_at hl 2 rfl) ?_
        refine lv_iload_n hx hb d_Mo_hasTwinsAnywhere_10 rfl (lv_at hl 0 rfl) ?_
        have hPc : va_P D vwCl [(me, .inl (c 0, ne, .inl (fun j => zI ((en j : Nat) : Int)))), (ms, .inr (3, [.ref msw])), (msw, .inl (c 2, 4 * (ne + 1), .inr (.inl mf)))] s.heap := hP.sub (ws' := [(me, .inl (c 0, ne, .inl (fun j => zI ((en j : Nat) : Int)))), (ms, .inr (3, [.ref msw])), (msw, .inl (c 2, 4 * (ne + 1), .inr (.inl mf)))]) [0, 1, 2] rfl
        refine vp_callSi (va_runS (rm := rm_hasTwins) (As := [.ref me, .ref ms, .int (zI ((v : Nat) : Int))]) (rest := []) ⟨hx, hb, hml, hown, hts⟩ (c_hasTwins l D c me ms msw en ne mf v (by omega) hen (by omega)) (va_cwS 3 hts (gWS k_Mo_m27 k_s_Mo_hasTwins k_n_Mo k_c_Mo_hasTwins) rfl rfl rfl (by decide +kernel) ⟨Nat.le_of_ble_eq_true rfl, Nat.le_of_ble_eq_true rfl⟩) ⟨zblind, fun U hU hW => ⟨rfl, by rw [hU]; exact hPc, hKN.moved hW⟩⟩ rfl rfl hl.1 rfl (lv_room (Nat.le_of_ble_eq_true rfl)) d_Mo_hasTwinsAnywhere_11 ⟨Nat.zero_le _, Nat.zero_le _⟩).run (fun r hr_1 => ?_)
        subst hr_1
        refine z_ifeq_B (tgt := 19) hx hb d_Mo_hasTwinsAnywhere_14 (by decide) (fun hc_14 => ?_) (fun hc_14 => ?_)
        · refine lv_iinc (v := zI ((v + 1 : Nat) : Int)) (lv' := [(2, .int (zI ((v + 1 : Nat) : Int))), (0, .ref me), (1, .ref ms)]) hx hb d_Mo_hasTwinsAnywhere_19 hl (k := 0) rfl (z_incN _ 1) (by decide) rfl (fun ls hl => ?_)
          refine lv_goto (tgt := 2) hx hb d_Mo_hasTwinsAnywhere_22 (by decide) ?_
          exact ih_2 (v + 1) (by omega) (by omega) (by rw [twA, htw, hc_14]; rfl) _ (lv_sub hl [0, 1, 2] rfl)
        · refine lv_iconst (v := zI 1) hx hb d_Mo_hasTwinsAnywhere_17 (by decide) ?_
          subst hQ
          exact W.zret (ty := .boolean) (v := (zI 1)) hx hb hr (by decide) (fun t9 ht hW => ⟨_, rfl, (by rw [twA_mono (i := v + 1) (by omega) (by rw [twA, hc_14]; simp)]; decide), ht⟩) (fun q hq => absurd hq List.not_mem_nil) d_Mo_hasTwinsAnywhere_18
  exact lp_2 _ 0 (Nat.lt_succ_self _) (by omega) rfl _ (lv_sub hl [0, 1, 2] rfl)

def rm_putFirst : Room := { frames := 2, cells := 0, slots := 0, locals := 45 }
set_option maxHeartbeats 4000000 in
set_option maxRecDepth 100000 in
/-- Model.putFirst -/
theorem c_putFirst (l : Launch) (D : va_G) (c : Nat → ClassId) (rc : Nat) (rcw : Nat) (rv : Nat → Int64) (mo : Nat) (me : Nat) (ms : Nat) (msw : Nat) (en : Nat → Nat) (ne : Nat) (mf : Nat → Int64) (dt : Bool) (t : Nat) (hne : ne ≤ 255) (hen : ∀ j, j < ne → en j < 300000) (ht : t < 1001) : Met l y_Mo_putFirst w_Mo_putFirst rm_putFirst (va_Pc [.ref mo, .ref rc, .int (zI ((t : Nat) : Int))] (fun U => (va_P D vwCl [(mo, .inr (1, [.ref me, .ref ms, .int (zB dt)])), (me, .inl (c 0, ne, .inl (fun j => zI ((en j : Nat) : Int)))), (ms, .inr (3, [.ref msw])), (msw, .inl (c 2, 4 * (ne + 1), .inr (.inl mf))), (rc, .inr (3, [.ref rcw])), (rcw, .inl (c 2, 4 * 1001, .inr (.inl rv)))] U.heap ∧ va_D (fun _ => True) [(mo, .inr (1, [.ref me, .ref ms, .int (zB dt)])), (me, .inl (c 0, ne, .inl (fun j => zI ((en j : Nat) : Int)))), (ms, .inr (3, [.ref msw])), (msw, .inl (c 2, 4 * (ne + 1), .inr (.inl mf))), (rc, .inr (3, [.ref rcw])), (rcw, .inl (c 2, 4 * 1001, .inr (.inl rv)))]) ∧ zK D c U)) (va_Qv (fun (u : Unit) => True) (fun (u : Unit) t9 => va_P D vwCl [(mo, .inr (1, [.ref me, .ref ms, .int (zB dt)])), (me, .inl (c 0, ne, .inl (fun j => zI ((en j : Nat) : Int)))), (ms, .inr (3, [.ref msw])), (msw, .inl (c 2, 4 * (ne + 1), .inr (.inl mf))), (rc, .inr (3, [.ref rcw])), (rcw, .inl (c 2, 4 * 1001, .inr (.inl (zor (zclr rv t) t mf ne))))] t9.heap) (zA [(mo, .inr (1, [.ref me, .ref ms, .int (zB dt)])), (me, .inl (c 0, ne, .inl (fun j => zI ((en j : Nat) : Int)))), (ms, .inr (3, [.ref msw])), (msw, .inl (c 2, 4 * (ne + 1), .inr (.inl mf))), (rc, .inr (3, [.ref rcw])), (rcw, .inl (c 2, 4 * 1001, .inr (.inl rv)))])) 0 0 (zA [(mo, .inr (1, [.ref me, .ref ms, .int (zB dt)])), (me, .inl (c 0, ne, .inl (fun j => zI ((en j : Nat) : Int)))), (ms, .inr (3, [.ref msw])), (msw, .inl (c 2, 4 * (ne + 1), .inr (.inl mf))), (rc, .inr (3, [.ref rcw])), (rcw, .inl (c 2, 4 * 1001, .inr (.inl rv)))]) := by
  refine Met.ofW (cc := b_Mo_putFirst) (maxL := 3) (ret := none) (by decide) rfl ?_
  intro p e s m args below meth c0 s₁ B hml hv
  obtain ⟨rfl, ⟨hP, hD0⟩, hKN⟩ := hv
  have hK := hKN.1
  have hN := hKN.2
  have hx := B.exec
  have hb := B.bytes
  have hr := B.returns
  have hts := atoms_spec (ws := w_Mo_putFirst) B.pre
  have hw : ∀ {w : Cond}, w ∈ ALLW → w.before _ s = true := fun h => hts _ (List.mem_cons_of_mem _ h)
  have hown : s.vm.findClass R_Mo = some m.cls := findClass_of_methodNamed B.named
  have hlocks := B.notSynchronized
  have hD : va_D (zA [(mo, .inr (1, [.ref me, .ref ms, .int (zB dt)])), (me, .inl (c 0, ne, .inl (fun j => zI ((en j : Nat) : Int)))), (ms, .inr (3, [.ref msw])), (msw, .inl (c 2, 4 * (ne + 1), .inr (.inl mf))), (rc, .inr (3, [.ref rcw])), (rcw, .inl (c 2, 4 * 1001, .inr (.inl rv)))]) [(mo, .inr (1, [.ref me, .ref ms, .int (zB dt)])), (me, .inl (c 0, ne, .inl (fun j => zI ((en j : Nat) : Int)))), (ms, .inr (3, [.ref msw])), (msw, .inl (c 2, 4 * (ne + 1), .inr (.inl mf))), (rc, .inr (3, [.ref rcw])), (rcw, .inl (c 2, 4 * 1001, .inr (.inl rv)))] := ⟨hD0.1, fun k q h => List.mem_map.mpr ⟨q, List.mem_of_getElem? h, rfl⟩⟩
  generalize hAe : zA [(mo, .inr (1, [.ref me, .ref ms, .int (zB dt)])), (me, .inl (c 0, ne, .inl (fun j => zI ((en j : Nat) : Int)))), (ms, .inr (3, [.ref msw])), (msw, .inl (c 2, 4 * (ne + 1), .inr (.inl mf))), (rc, .inr (3, [.ref rcw])), (rcw, .inl (c 2, 4 * 1001, .inr (.inl rv)))] = A at hD ⊢
  have hS : va_S A s.heap s.heap [] := va_S.rf
  have hP : va_P D vwCl [(mo, .inr (1, [.ref me, .ref ms, .int (zB dt)])), (me, .inl (c 0, ne, .inl (fun j => zI ((en j : Nat) : Int)))), (ms, .inr (3, [.ref msw])), (msw, .inl (c 2, 4 * (ne + 1), .inr (.inl mf))), (rc, .inr (3, [.ref rcw])), (rcw, .inl (c 2, 4 * 1001, .inr (.inl rv)))] s.heap := hP
  have hl := lv_entry ([.ref mo, .ref rc, .int (zI ((t : Nat) : Int))]) (n := 3) (Nat.le_of_ble_eq_true rfl)
  rw [lg_entry_eq]
  generalize (lg_sl ([.ref mo, .ref rc, .int (zI ((t : Nat) : Int))]) ++ List.replicate (3 - (lg_sl ([.ref mo, .ref rc, .int (zI ((t : Nat) : Int))])).length) Slot.unset).toArray = ls at hl ⊢
  have hl : lv_has ls 3 [(0, .ref mo), (1, .ref rc), (2, .int (zI ((t : Nat) : Int)))] := hl
  generalize hQ : MQ below _ _ _ _ _ _ = Q
  refine lv_aload_n hx hb d_Mo_putFirst_0 rfl (lv_at hl 1 rfl) ?_
  refine lv_iload_n hx hb d_Mo_putFirst_1 rfl (lv_at hl 2 rfl) ?_
  have hPc : va_P D vwCl [(rc, .inr (3, [.ref rcw])), (rcw, .inl (c 2, 4 * 1001, .inr (.inl rv)))] s.heap := hP.sub (ws' := [(rc, .inr (3, [.ref rcw])), (rcw, .inl (c 2, 4 * 1001, .inr (.inl rv)))]) [4, 5] rfl
  have hDc : va_D A [(rc, .inr (3, [.ref rcw])), (rcw, .inl (c 2, 4 * 1001, .inr (.inl rv)))] := hD.sub (ws' := [(rc, .inr (3, [.ref rcw])), (rcw, .inl (c 2, 4 * 1001, .inr (.inl rv)))]) [4, 5] (by decide) rfl
  have hDt : va_D (fun _ => True) [(rc, .inr (3, [.ref rcw])), (rcw, .inl (c 2, 4 * 1001, .inr (.inl rv)))] := hDc.weaken (fun _ _ _ _ => trivial)
  refine z_callv (S := Unit) (w1 := fun u => [(rc, .inr (3, [.ref rcw])), (rcw, .inl (c 2, 4 * 1001, .inr (.inl (zclr rv t))))]) (post := fun u => True) (wc := [(rc, .inr (3, [.ref rcw])), (rcw, .inl (c 2, 4 * 1001, .inr (.inl rv)))]) [4, 5] rfl (fun _ => rfl) hP hD hS (va_runV (rm := rm_removeAll) (As := [.int (zI ((t : Nat) : Int))]) (rest := []) ⟨hx, hb, hml, hown, hts⟩ (c_removeAll l D c rc rcw 1001 rv t (by omega) (by omega)) (cwV 1 hts (gWV k_Mo_m44 k_i_Se_removeAll k_v_Se_removeAll k_n_Se k_c_Se_removeAll) rfl rfl rfl (by decide +kernel) ⟨Nat.le_of_ble_eq_true rfl, Nat.le_of_ble_eq_true rfl⟩) ⟨zblindW, va_recv hK hPc (ci := 3) (q0 := 0) rfl rfl, fun U hU hW => ⟨rfl, ⟨by rw [hU]; exact hPc, hDt⟩, hKN.moved hW⟩⟩ rfl rfl hl.1 rfl (lv_room (Nat.le_of_ble_eq_true rfl)) d_Mo_putFirst_2 ⟨Nat.zero_le _, Nat.zero_le _⟩) (fun u H locs hp_1 hP hD hS => ?_)
  have hP : va_P D vwCl [(mo, .inr (1, [.ref me, .ref ms, .int (zB dt)])), (me, .inl (c 0, ne, .inl (fun j => zI ((en j : Nat) : Int)))), (ms, .inr (3, [.ref msw])), (msw, .inl (c 2, 4 * (ne + 1), .inr (.inl mf))), (rc, .inr (3, [.ref rcw])), (rcw, .inl (c 2, 4 * 1001, .inr (.inl (zclr rv t))))] H := hP
  have hD : va_D A [(mo, .inr (1, [.ref me, .ref ms, .int (zB dt)])), (me, .inl (c 0, ne, .inl (fun j => zI ((en j : Nat) : Int)))), (ms, .inr (3, [.ref msw])), (msw, .inl (c 2, 4 * (ne + 1), .inr (.inl mf))), (rc, .inr (3, [.ref rcw])), (rcw, .inl (c 2, 4 * 1001, .inr (.inl (zclr rv t))))] := hD
  refine lv_aload_n hx hb d_Mo_putFirst_5 rfl (lv_at hl 1 rfl) ?_
  refine lv_iload_n hx hb d_Mo_putFirst_6 rfl (lv_at hl 2 rfl) ?_
  refine lv_aload_n hx hb d_Mo_putFirst_7 rfl (lv_at hl 0 rfl) ?_
  refine va_get (D := D) (ci := 1) (v := .ref ms) (C := R_Mo) (T := T_Mo) (N := 3) hx hb hts (fun w h => List.mem_cons_of_mem _ (inA_Mo w h)) hown hK hP 0 rfl rfl 1 (by decide) (hw k_Mo_f15) (fun _ h9 => h9) rfl d_Mo_putFirst_8 ?_
  refine lv_aload_n hx hb d_Mo_putFirst_11 rfl (lv_at hl 0 rfl) ?_
  refine va_get (D := D) (ci := 1) (v := .ref me) (C := R_Mo) (T := T_Mo) (N := 3) hx hb hts (fun w h => List.mem_cons_of_mem _ (inA_Mo w h)) hown hK hP 0 rfl rfl 0 (by decide) (hw k_Mo_f9) (fun _ h9 => h9) rfl d_Mo_putFirst_12 ?_
  refine z_alen hx hb hK hP 1 0 rfl rfl d_Mo_putFirst_15 ?_
  refine z_top (v2 := .int (zI ((ne : Nat) : Int))) rfl ?_
  have hPc : va_P D vwCl [(rc, .inr (3, [.ref rcw])), (rcw, .inl (c 2, 4 * 1001, .inr (.inl (zclr rv t)))), (ms, .inr (3, [.ref msw])), (msw, .inl (c 2, 4 * (ne + 1), .inr (.inl mf)))] H := hP.sub (ws' := [(rc, .inr (3, [.ref rcw])), (rcw, .inl (c 2, 4 * 1001, .inr (.inl (zclr rv t)))), (ms, .inr (3, [.ref msw])), (msw, .inl (c 2, 4 * (ne + 1), .inr (.inl mf)))]) [4, 5, 2, 3] rfl
  have hDc : va_D A [(rc, .inr (3, [.ref rcw])), (rcw, .inl (c 2, 4 * 1001, .inr (.inl (zclr rv t)))), (ms, .inr (3, [.ref msw])), (msw, .inl (c 2, 4 * (ne + 1), .inr (.inl mf)))] := hD.sub (ws' := [(rc, .inr (3, [.ref rcw])), (rcw, .inl (c 2, 4 * 1001, .inr (.inl (zclr rv t)))), (ms, .inr (3, [.ref msw])), (msw, .inl (c 2, 4 * (ne + 1), .inr (.inl mf)))]) [4, 5, 2, 3] (by decide) rfl
  have hDt : va_D (fun _ => True) [(rc, .inr (3, [.ref rcw])), (rcw, .inl (c 2, 4 * 1001, .inr (.inl (zclr rv t)))), (ms, .inr (3, [.ref msw])), (msw, .inl (c 2, 4 * (ne + 1), .inr (.inl mf)))] := hDc.weaken (fun _ _ _ _ => trivial)
  refine z_callv (S := Unit) (w1 := fun u => [(rc, .inr (3, [.ref rcw])), (rcw, .inl (c 2, 4 * 1001, .inr (.inl (zor (zclr rv t) t mf ne)))), (ms, .inr (3, [.ref msw])), (msw, .inl (c 2, 4 * (ne + 1), .inr (.inl mf)))]) (post := fun u => True) (wc := [(rc, .inr (3, [.ref rcw])), (rcw, .inl (c 2, 4 * 1001, .inr (.inl (zclr rv t)))), (ms, .inr (3, [.ref msw])), (msw, .inl (c 2, 4 * (ne + 1), .inr (.inl mf)))]) [4, 5, 2, 3] rfl (fun _ => rfl) hP hD hS (va_runV (rm := rm_addAll) (As := [.int (zI ((t : Nat) : Int)), .ref ms, .int (zI ((ne : Nat) : Int))]) (rest := []) ⟨hx, hb, hml, hown, hts⟩ (c_addAll l D c rc rcw 1001 (zclr rv t) t ms msw (ne + 1) mf ne (by omega) (by omega) (by omega) (by omega)) (cwV 3 hts (gWV k_Mo_m48 k_i_Se_addAll k_v_Se_addAll k_n_Se k_c_Se_addAll) rfl rfl rfl (by decide +kernel) ⟨Nat.le_of_ble_eq_true rfl, Nat.le_of_ble_eq_true rfl⟩) ⟨zblindW, va_recv hK hPc (ci := 3) (q0 := 0) rfl rfl, fun U hU hW => ⟨rfl, ⟨by rw [hU]; exact hPc, hDt⟩, hKN.moved hW⟩⟩ rfl rfl hl.1 rfl (lv_room (Nat.le_of_ble_eq_true rfl)) d_Mo_putFirst_16 ⟨Nat.zero_le _, Nat.zero_le _⟩) (fun u H locs hp_2 hP hD hS => ?_)
  have hP : va_P D vwCl [(mo, .inr (1, [.ref me, .ref ms, .int (zB dt)])), (me, .inl (c 0, ne, .inl (fun j => zI ((en j : Nat) : Int)))), (ms, .inr (3, [.ref msw])), (msw, .inl (c 2, 4 * (ne + 1), .inr (.inl mf))), (rc, .inr (3, [.ref rcw])), (rcw, .inl (c 2, 4 * 1001, .inr (.inl (zor (zclr rv t) t mf ne))))] H := hP
  have hD : va_D A [(mo, .inr (1, [.ref me, .ref ms, .int (zB dt)])), (me, .inl (c 0, ne, .inl (fun j => zI ((en j : Nat) : Int)))), (ms, .inr (3, [.ref msw])), (msw, .inl (c 2, 4 * (ne + 1), .inr (.inl mf))), (rc, .inr (3, [.ref rcw])), (rcw, .inl (c 2, 4 * 1001, .inr (.inl (zor (zclr rv t) t mf ne))))] := hD
  subst hQ
  exact W.vret hx hb hr (fun t9 ht hW => ⟨⟨(), rfl, trivial, by show va_P _ _ _ t9.heap; rw [ht]; exact hP⟩, hS.F ht⟩) hS.2.2 d_Mo_putFirst_19

def rm_putBehind : Room := { frames := 3, cells := 0, slots := 0, locals := 65 }
set_option maxHeartbeats 4000000 in
set_option maxRecDepth 100000 in
/-- Model.putBehind -/
theorem c_putBehind (l : Launch) (D : va_G) (c : Nat → ClassId) (rc : Nat) (rcw : Nat) (rv : Nat → Int64) (mo : Nat) (me : Nat) (ms : Nat) (msw : Nat) (en : Nat → Nat) (ne : Nat) (mf : Nat → Int64) (dt : Bool) (t : Nat) (x : Nat) (hne : ne ≤ 255) (hen : ∀ j, j < ne → en j < 300000) (ht : t < 1000) (hx_ : x < 2048) (hoc : ∀ j, j < ne → en j % 256 < ne + 1) : Met l y_Mo_putBehind w_Mo_putBehind rm_putBehind (va_Pc [.ref mo, .ref rc, .int (zI ((t : Nat) : Int)), .int (zI ((x : Nat) : Int))] (fun U => (va_P D vwCl [(mo, .inr (1, [.ref me, .ref ms, .int (zB dt)])), (me, .inl (c 0, ne, .inl (fun j => zI ((en j : Nat) : Int)))), (ms, .inr (3, [.ref msw])), (msw, .inl (c 2, 4 * (ne + 1), .inr (.inl mf))), (rc, .inr (3, [.ref rcw])), (rcw, .inl (c 2, 4 * 1001, .inr (.inl rv)))] U.heap ∧ va_D (fun _ => True) [(mo, .inr (1, [.ref me, .ref ms, .int (zB dt)])), (me, .inl (c 0, ne, .inl (fun j => zI ((en j : Nat) : Int)))), (ms, .inr (3, [.ref msw])), (msw, .inl (c 2, 4 * (ne + 1), .inr (.inl mf))), (rc, .inr (3, [.ref rcw])), (rcw, .inl (c 2, 4 * 1001, .inr (.inl rv)))]) ∧ zK D c U)) (va_Qv (fun (u : Unit) => True) (fun (u : Unit) t9 => va_P D vwCl [(mo, .inr (1, [.ref me, .ref ms, .int (zB dt)])), (me, .inl (c 0, ne, .inl (fun j => zI ((en j : Nat) : Int)))), (ms, .inr (3, [.ref msw])), (msw, .inl (c 2, 4 * (ne + 1), .inr (.inl mf))), (rc, .inr (3, [.ref rcw])), (rcw, .inl (c 2, 4 * 1001, .inr (.inl (pbk rv en mf t x ne))))] t9.heap) (zA [(mo, .inr (1, [.ref me, .ref ms, .int (zB dt)])), (me, .inl (c 0, ne, .inl (fun j => zI ((en j : Nat) : Int)))), (ms, .inr (3, [.ref msw])), (msw, .inl (c 2, 4 * (ne + 1), .inr (.inl mf))), (rc, .inr (3, [.ref rcw])), (rcw, .inl (c 2, 4 * 1001, .inr (.inl rv)))])) 0 0 (zA [(mo, .inr (1, [.ref me, .ref ms, .int (zB dt)])), (me, .inl (c 0, ne, .inl (fun j => zI ((en j : Nat) : Int)))), (ms, .inr (3, [.ref msw])), (msw, .inl (c 2, 4 * (ne + 1), .inr (.inl mf))), (rc, .inr (3, [.ref rcw])), (rcw, .inl (c 2, 4 * 1001, .inr (.inl rv)))]) := by
  refine Met.ofW (cc := b_Mo_putBehind) (maxL := 6) (ret := none) (by decide) rfl ?_
  intro p e s m args below meth c0 s₁ B hml hv
  obtain ⟨rfl, ⟨hP, hD0⟩, hKN⟩ := hv
  have hK := hKN.1
  have hN := hKN.2
  have hx := B.exec
  have hb := B.bytes
  have hr := B.returns
  have hts := atoms_spec (ws := w_Mo_putBehind) B.pre
  have hw : ∀ {w : Cond}, w ∈ ALLW → w.before _ s = true := fun h => hts _ (List.mem_cons_of_mem _ h)
  have hown : s.vm.findClass R_Mo = some m.cls := findClass_of_methodNamed B.named
  have hlocks := B.notSynchronized
  have hD : va_D (zA [(mo, .inr (1, [.ref me, .ref ms, .int (zB dt)])), (me, .inl (c 0, ne, .inl (fun j => zI ((en j : Nat) : Int)))), (ms, .inr (3, [.ref msw])), (msw, .inl (c 2, 4 * (ne + 1), .inr (.inl mf))), (rc, .inr (3, [.ref rcw])), (rcw, .inl (c 2, 4 * 1001, .inr (.inl rv)))]) [(mo, .inr (1, [.ref me, .ref ms, .int (zB dt)])), (me, .inl (c 0, ne, .inl (fun j => zI ((en j : Nat) : Int)))), (ms, .inr (3, [.ref msw])), (msw, .inl (c 2, 4 * (ne + 1), .inr (.inl mf))), (rc, .inr (3, [.ref rcw])), (rcw, .inl (c 2, 4 * 1001, .inr (.inl rv)))] := ⟨hD0.1, fun k q h => List.mem_map.mpr ⟨q, List.mem_of_getElem? h, rfl⟩⟩
  generalize hAe : zA [(mo, .inr (1, [.ref me, .ref ms, .int (zB dt)])), (me, .inl (c 0, ne, .inl (fun j => zI ((en j : Nat) : Int)))), (ms, .inr (3, [.ref msw])), (msw, .inl (c 2, 4 * (ne + 1), .inr (.inl mf))), (rc, .inr (3, [.ref rcw])), (rcw, .inl (c 2, 4 * 1001, .inr (.inl rv)))] = A at hD ⊢
  have hS : va_S A s.heap s.heap [] := va_S.rf
  have hP : va_P D vwCl [(mo, .inr (1, [.ref me, .ref ms, .int (zB dt)])), (me, .inl (c 0, ne, .inl (fun j => zI ((en j : Nat) : Int)))), (ms, .inr (3, [.ref msw])), (msw, .inl (c 2, 4 * (ne + 1), .inr (.inl mf))), (rc, .inr (3, [.ref rcw])), (rcw, .inl (c 2, 4 * 1001, .inr (.inl rv)))] s.heap := hP
  have hl := lv_entry ([.ref mo, .ref rc, .int (zI ((t : Nat) : Int)), .int (zI ((x : Nat) : Int))]) (n := 6) (Nat.le_of_ble_eq_true rfl)
  rw [lg_entry_eq]
  generalize (lg_sl ([.ref mo, .ref rc, .int (zI ((t : Nat) : Int)), .int (zI ((x : Nat) : Int))]) ++ List.replicate (6 - (lg_sl ([.ref mo, .ref rc, .int (zI ((t : Nat) : Int)), .int (zI ((x : Nat) : Int))])).length) Slot.unset).toArray = ls at hl ⊢
  have hl : lv_has ls 6 [(0, .ref mo), (1, .ref rc), (2, .int (zI ((t : Nat) : Int))), (3, .int (zI ((x : Nat) : Int)))] := hl
  generalize hQ : MQ below _ _ _ _ _ _ = Q
  refine lv_aload_n hx hb d_Mo_putBehind_0 rfl (lv_at hl 1 rfl) ?_
  refine lv_iload_n hx hb d_Mo_putBehind_1 rfl (lv_at hl 2 rfl) ?_
  refine lv_iconst (v := zI 1) hx hb d_Mo_putBehind_2 (by decide) ?_
  refine z_iadd hx hb d_Mo_putBehind_3 ?_
  refine z_top (v2 := .int (zI ((t + 1 : Nat) : Int))) (congrArg Value.int (congrArg zI (by omega))) ?_
  have hPc : va_P D vwCl [(rc, .inr (3, [.ref rcw])), (rcw, .inl (c 2, 4 * 1001, .inr (.inl rv)))] s.heap := hP.sub (ws' := [(rc, .inr (3, [.ref rcw])), (rcw, .inl (c 2, 4 * 1001, .inr (.inl rv)))]) [4, 5] rfl
  have hDc : va_D A [(rc, .inr (3, [.ref rcw])), (rcw, .inl (c 2, 4 * 1001, .inr (.inl rv)))] := hD.sub (ws' := [(rc, .inr (3, [.ref rcw])), (rcw, .inl (c 2, 4 * 1001, .inr (.inl rv)))]) [4, 5] (by decide) rfl
  have hDt : va_D (fun _ => True) [(rc, .inr (3, [.ref rcw])), (rcw, .inl (c 2, 4 * 1001, .inr (.inl rv)))] := hDc.weaken (fun _ _ _ _ => trivial)
  refine z_callv (S := Unit) (w1 := fun u => [(rc, .inr (3, [.ref rcw])), (rcw, .inl (c 2, 4 * 1001, .inr (.inl (zclr rv (t + 1)))))]) (post := fun u => True) (wc := [(rc, .inr (3, [.ref rcw])), (rcw, .inl (c 2, 4 * 1001, .inr (.inl rv)))]) [4, 5] rfl (fun _ => rfl) hP hD hS (va_runV (rm := rm_removeAll) (As := [.int (zI ((t + 1 : Nat) : Int))]) (rest := []) ⟨hx, hb, hml, hown, hts⟩ (c_removeAll l D c rc rcw 1001 rv (t + 1) (by omega) (by omega)) (cwV 1 hts (gWV k_Mo_m44 k_i_Se_removeAll k_v_Se_removeAll k_n_Se k_c_Se_removeAll) rfl rfl rfl (by decide +kernel) ⟨Nat.le_of_ble_eq_true rfl, Nat.le_of_ble_eq_true rfl⟩) ⟨zblindW, va_recv hK hPc (ci := 3) (q0 := 0) rfl rfl, fun U hU hW => ⟨rfl, ⟨by rw [hU]; exact hPc, hDt⟩, hKN.moved hW⟩⟩ rfl rfl hl.1 rfl (lv_room (Nat.le_of_ble_eq_true rfl)) d_Mo_putBehind_4 ⟨Nat.zero_le _, Nat.zero_le _⟩) (fun u H locs hp_1 hP hD hS => ?_)
  have hP : va_P D vwCl [(mo, .inr (1, [.ref me, .ref ms, .int (zB dt)])), (me, .inl (c 0, ne, .inl (fun j => zI ((en j : Nat) : Int)))), (ms, .inr (3, [.ref msw])), (msw, .inl (c 2, 4 * (ne + 1), .inr (.inl mf))), (rc, .inr (3, [.ref rcw])), (rcw, .inl (c 2, 4 * 1001, .inr (.inl (zclr rv (t + 1)))))] H := hP
  have hD : va_D A [(mo, .inr (1, [.ref me, .ref ms, .int (zB dt)])), (me, .inl (c 0, ne, .inl (fun j => zI ((en j : Nat) : Int)))), (ms, .inr (3, [.ref msw])), (msw, .inl (c 2, 4 * (ne + 1), .inr (.inl mf))), (rc, .inr (3, [.ref rcw])), (rcw, .inl (c 2, 4 * 1001, .inr (.inl (zclr rv (t + 1)))))] := hD
  refine lv_iconst (v := zI 0) hx hb d_Mo_putBehind_7 (by decide) ?_
  refine lv_istore (lv' := [(4, .int (zI 0)), (0, .ref mo), (1, .ref rc), (2, .int (zI ((t : Nat) : Int))), (3, .int (zI ((x : Nat) : Int)))]) hx hb d_Mo_putBehind_8 hl (by decide) rfl (fun ls hl => ?_)
  have lp_10 : ∀ (k_ : Nat) (v : Nat), ne - v < k_ → (v ≤ ne) → ∀ (H : Heap) (locs : List Loc), va_P D vwCl [(mo, .inr (1, [.ref me, .ref ms, .int (zB dt)])), (me, .inl (c 0, ne, .inl (fun j => zI ((en j : Nat) : Int)))), (ms, .inr (3, [.ref msw])), (msw, .inl (c 2, 4 * (ne + 1), .inr (.inl mf))), (rc, .inr (3, [.ref rcw])), (rcw, .inl (c 2, 4 * 1001, .inr (.inl (pbk rv en mf t x v))))] H → va_D A [(mo, .inr (1, [.ref me, .ref ms, .int (zB dt)])), (me, .inl (c 0, ne, .inl (fun j => zI ((en j : Nat) : Int)))), (ms, .inr (3, [.ref msw])), (msw, .inl (c 2, 4 * (ne + 1), .inr (.inl mf))), (rc, .inr (3, [.ref rcw])), (rcw, .inl (c 2, 4 * 1001, .inr (.inl (pbk rv en mf t x v))))] → va_S A s.heap H locs → ∀ ls : Array Slot, lv_has ls 6 [(4, .int (zI ((v : Nat) : Int))), (0, .ref mo), (1, .ref rc), (2, .int (zI ((t : Nat) : Int))), (3, .int (zI ((x : Nat) : Int)))] → W p l e (headSpec w_Mo_putBehind rm_putBehind).room s m ([.ref mo, .ref rc, .int (zI ((t : Nat) : Int)), .int (zI ((x : Nat) : Int))] : List Value).toArray below meth c0 H locs 0 0 Q (F0 m 10 ls []) := by
    intro k_
    induction k_ with
    | zero => intro v hk_; exact absurd hk_ (Nat.not_lt_zero _)
    | succ k_ ih_10 =>
      intro v hk_ hv H locs hP hD hS ls hl
      refine lv_iload hx hb d_Mo_putBehind_10 (lv_at hl 0 rfl) ?_
      refine lv_aload_n hx hb d_Mo_putBehind_12 rfl (lv_at hl 1 rfl) ?_
      refine va_get (D := D) (ci := 1) (v := .ref me) (C := R_Mo) (T := T_Mo) (N := 3) hx hb hts (fun w h => List.mem_cons_of_mem _ (inA_Mo w h)) hown hK hP 0 rfl rfl 0 (by decide) (hw k_Mo_f9) (fun _ h9 => h9) rfl d_Mo_putBehind_13 ?_
      refine z_alen hx hb hK hP 1 0 rfl rfl d_Mo_putBehind_16 ?_
      refine z_top (v2 := .int (zI ((ne : Nat) : Int))) rfl ?_
      refine z_icmp_ge (tgt := 75) hx hb (by omega) d_Mo_putBehind_17 (by decide) (fun hc_17 => ?_) (fun hc_17 => ?_)
      · have e_ : v = ne := by omega
        rw [e_] at hP
        subst hQ
        exact W.vret hx hb hr (fun t9 ht hW => ⟨⟨(), rfl, trivial, by show va_P _ _ _ t9.heap; rw [ht]; exact hP⟩, hS.F ht⟩) hS.2.2 d_Mo_putBehind_75
      · have hev := hen v (by omega)
        refine lv_aload_n hx hb d_Mo_putBehind_20 rfl (lv_at hl 1 rfl) ?_
        refine va_get (D := D) (ci := 1) (v := .ref me) (C := R_Mo) (T := T_Mo) (N := 3) hx hb hts (fun w h => List.mem_cons_of_mem _ (inA_Mo w h)) hown hK hP 0 rfl rfl 0 (by decide) (hw k_Mo_f9) (fun _ h9 => h9) rfl d_Mo_putBehind_21 ?_
        refine lv_iload hx hb d_Mo_putBehind_24 (lv_at hl 0 rfl) ?_
        refine z_uald hx hb hK hP 1 0 rfl rfl (v) (by omega) (by omega) (by omega) d_Mo_putBehind_26 ?_
        have hPc : va_P D vwCl [] H := hP.sub (ws' := []) [] rfl
        refine vp_callSi (va_runS (rm := rm_occurrenceOf) (As := [.int (zI ((en v : Nat) : Int))]) (rest := []) ⟨hx, hb, hml, hown, hts⟩ (c_occurrenceOf l D c (en v) (by omega)) (va_cwS 1 hts (gWS k_Mo_m31 k_s_Mo_occurrenceOf k_n_Mo k_c_Mo_occurrenceOf) rfl rfl rfl (by decide +kernel) ⟨Nat.le_of_ble_eq_true rfl, Nat.le_of_ble_eq_true rfl⟩) ⟨zblind, fun U hU hW => ⟨rfl, by rw [hU]; exact hPc, hKN.moved hW⟩⟩ rfl rfl hl.1 rfl (lv_room (Nat.le_of_ble_eq_true rfl)) d_Mo_putBehind_27 ⟨Nat.zero_le _, Nat.zero_le _⟩).run (fun r hr_2 => ?_)
        subst hr_2
        refine lv_istore (lv' := [(5, .int (zI (((en v) % 256 : Nat) : Int))), (4, .int (zI ((v : Nat) : Int))), (0, .ref mo), (1, .ref rc), (2, .int (zI ((t : Nat) : Int))), (3, .int (zI ((x : Nat) : Int)))]) hx hb d_Mo_putBehind_30 hl (by decide) rfl (fun ls hl => ?_)
        refine lv_aload_n hx hb d_Mo_putBehind_32 rfl (lv_at hl 2 rfl) ?_
        refine va_get (D := D) (ci := 1) (v := .ref me) (C := R_Mo) (T := T_Mo) (N := 3) hx hb hts (fun w h => List.mem_cons_of_mem _ (inA_Mo w h)) hown hK hP 0 rfl rfl 0 (by decide) (hw k_Mo_f9) (fun _ h9 => h9) rfl d_Mo_putBehind_33 ?_
        refine lv_iload hx hb d_Mo_putBehind_36 (lv_at hl 1 rfl) ?_
        refine z_uald hx hb hK hP 1 0 rfl rfl (v) (by omega) (by omega) (by omega) d_Mo_putBehind_38 ?_
        have hPc : va_P D vwCl [] H := hP.sub (ws' := []) [] rfl
        refine vp_callSi (va_runS (rm := rm_nameOf) (As := [.int (zI ((en v : Nat) : Int))]) (rest := []) ⟨hx, hb, hml, hown, hts⟩ (c_nameOf l D c (en v) (by omega)) (va_cwS 1 hts (gWS k_Mo_m41 k_s_Mo_nameOf k_n_Mo k_c_Mo_nameOf) rfl rfl rfl (by decide +kernel) ⟨Nat.le_of_ble_eq_true rfl, Nat.le_of_ble_eq_true rfl⟩) ⟨zblind, fun U hU hW => ⟨rfl, by rw [hU]; exact hPc, hKN.moved hW⟩⟩ rfl rfl hl.1 rfl (lv_room (Nat.le_of_ble_eq_true rfl)) d_Mo_putBehind_39 ⟨Nat.zero_le _, Nat.zero_le _⟩).run (fun r hr_3 => ?_)
        subst hr_3
        refine lv_iload_n hx hb d_Mo_putBehind_42 rfl (lv_at hl 5 rfl) ?_
        refine z_icmp_ne (tgt := 69) hx hb (by omega) d_Mo_putBehind_43 (by decide) (fun hc_43 => ?_) (fun hc_43 => ?_)
        · refine lv_iinc (v := zI ((v + 1 : Nat) : Int)) (lv' := [(4, .int (zI ((v + 1 : Nat) : Int))), (5, .int (zI (((en v) % 256 : Nat) : Int))), (0, .ref mo), (1, .ref rc), (2, .int (zI ((t : Nat) : Int))), (3, .int (zI ((x : Nat) : Int)))]) hx hb d_Mo_putBehind_69 hl (k := 1) rfl (z_incN _ 1) (by decide) rfl (fun ls hl => ?_)
          refine lv_goto (tgt := 10) hx hb d_Mo_putBehind_72 (by decide) ?_
          exact ih_10 (v + 1) (by omega) (by omega) _ _ (by rw [pbk_F (fun q_ => by first | exact absurd q_.2 (by rw [hc_53]; decide) | exact hc_43 (by have := q_.1; omega))]; exact hP) (z_D_congr (by rfl) hD) hS _ (lv_sub hl [0, 2, 3, 4, 5] rfl)
        · refine lv_aload_n hx hb d_Mo_putBehind_46 rfl (lv_at hl 3 rfl) ?_
          refine lv_iload_n hx hb d_Mo_putBehind_47 rfl (lv_at hl 4 rfl) ?_
          refine lv_iload hx hb d_Mo_putBehind_48 (lv_at hl 0 rfl) ?_
          have hPc : va_P D vwCl [(rc, .inr (3, [.ref rcw])), (rcw, .inl (c 2, 4 * 1001, .inr (.inl (pbk rv en mf t x v))))] H := hP.sub (ws' := [(rc, .inr (3, [.ref rcw])), (rcw, .inl (c 2, 4 * 1001, .inr (.inl (pbk rv en mf t x v))))]) [4, 5] rfl
          refine vp_callSi (va_runV (rm := rm_holds) (As := [.int (zI ((t : Nat) : Int)), .int (zI (((en v) % 256 : Nat) : Int))]) (rest := []) ⟨hx, hb, hml, hown, hts⟩ (c_holds l D c rc rcw 1001 (pbk rv en mf t x v) t (en v % 256) (by omega) (by omega) (by omega)) (cwV 2 hts (gWV k_Mo_m35 k_i_Se_holds k_v_Se_holds k_n_Se k_c_Se_holds) rfl rfl rfl (by decide +kernel) ⟨Nat.le_of_ble_eq_true rfl, Nat.le_of_ble_eq_true rfl⟩) ⟨zblind, va_recv hK hPc (ci := 3) (q0 := 0) rfl rfl, fun U hU hW => ⟨rfl, by rw [hU]; exact hPc, hKN.moved hW⟩⟩ rfl rfl hl.1 rfl (lv_room (Nat.le_of_ble_eq_true rfl)) d_Mo_putBehind_50 ⟨Nat.zero_le _, Nat.zero_le _⟩).run (fun r hr_4 => ?_)
          subst hr_4
          refine z_ifeq_B (tgt := 69) hx hb d_Mo_putBehind_53 (by decide) (fun hc_53 => ?_) (fun hc_53 => ?_)
          · refine lv_iinc (v := zI ((v + 1 : Nat) : Int)) (lv' := [(4, .int (zI ((v + 1 : Nat) : Int))), (5, .int (zI (((en v) % 256 : Nat) : Int))), (0, .ref mo), (1, .ref rc), (2, .int (zI ((t : Nat) : Int))), (3, .int (zI ((x : Nat) : Int)))]) hx hb d_Mo_putBehind_69 hl (k := 1) rfl (z_incN _ 1) (by decide) rfl (fun ls hl => ?_)
            refine lv_goto (tgt := 10) hx hb d_Mo_putBehind_72 (by decide) ?_
            exact ih_10 (v + 1) (by omega) (by omega) _ _ (by rw [pbk_F (fun q_ => by first | exact absurd q_.2 (by rw [hc_53]; decide) | exact hc_43 (by have := q_.1; omega))]; exact hP) (z_D_congr (by rfl) hD) hS _ (lv_sub hl [0, 2, 3, 4, 5] rfl)
          · refine lv_aload_n hx hb d_Mo_putBehind_56 rfl (lv_at hl 3 rfl) ?_
            refine lv_iload_n hx hb d_Mo_putBehind_57 rfl (lv_at hl 4 rfl) ?_
            refine lv_iconst (v := zI 1) hx hb d_Mo_putBehind_58 (by decide) ?_
            refine z_iadd hx hb d_Mo_putBehind_59 ?_
            refine z_top (v2 := .int (zI ((t + 1 : Nat) : Int))) (congrArg Value.int (congrArg zI (by omega))) ?_
            refine lv_aload_n hx hb d_Mo_putBehind_60 rfl (lv_at hl 2 rfl) ?_
            refine va_get (D := D) (ci := 1) (v := .ref ms) (C := R_Mo) (T := T_Mo) (N := 3) hx hb hts (fun w h => List.mem_cons_of_mem _ (inA_Mo w h)) hown hK hP 0 rfl rfl 1 (by decide) (hw k_Mo_f15) (fun _ h9 => h9) rfl d_Mo_putBehind_61 ?_
            refine lv_iload hx hb d_Mo_putBehind_64 (lv_at hl 0 rfl) ?_
            have hPc : va_P D vwCl [(rc, .inr (3, [.ref rcw])), (rcw, .inl (c 2, 4 * 1001, .inr (.inl (pbk rv en mf t x v)))), (ms, .inr (3, [.ref msw])), (msw, .inl (c 2, 4 * (ne + 1), .inr (.inl mf)))] H := hP.sub (ws' := [(rc, .inr (3, [.ref rcw])), (rcw, .inl (c 2, 4 * 1001, .inr (.inl (pbk rv en mf t x v)))), (ms, .inr (3, [.ref msw])), (msw, .inl (c 2, 4 * (ne + 1), .inr (.inl mf)))]) [4, 5, 2, 3] rfl
            have hDc : va_D A [(rc, .inr (3, [.ref rcw])), (rcw, .inl (c 2, 4 * 1001, .inr (.inl (pbk rv en mf t x v)))), (ms, .inr (3, [.ref msw])), (msw, .inl (c 2, 4 * (ne + 1), .inr (.inl mf)))] := hD.sub (ws' := [(rc, .inr (3, [.ref rcw])), (rcw, .inl (c 2, 4 * 1001, .inr (.inl (pbk rv en mf t x v)))), (ms, .inr (3, [.ref msw])), (msw, .inl (c 2, 4 * (ne + 1), .inr (.inl mf)))]) [4, 5, 2, 3] (by decide) rfl
            have hDt : va_D (fun _ => True) [(rc, .inr (3, [.ref rcw])), (rcw, .inl (c 2, 4 * 1001, .inr (.inl (pbk rv en mf t x v)))), (ms, .inr (3, [.ref msw])), (msw, .inl (c 2, 4 * (ne + 1), .inr (.inl mf)))] := hDc.weaken (fun _ _ _ _ => trivial)
            refine z_callv (S := Unit) (w1 := fun u => [(rc, .inr (3, [.ref rcw])), (rcw, .inl (c 2, 4 * 1001, .inr (.inl (zor (pbk rv en mf t x v) (t + 1) mf (en v % 256))))), (ms, .inr (3, [.ref msw])), (msw, .inl (c 2, 4 * (ne + 1), .inr (.inl mf)))]) (post := fun u => True) (wc := [(rc, .inr (3, [.ref rcw])), (rcw, .inl (c 2, 4 * 1001, .inr (.inl (pbk rv en mf t x v)))), (ms, .inr (3, [.ref msw])), (msw, .inl (c 2, 4 * (ne + 1), .inr (.inl mf)))]) [4, 5, 2, 3] rfl (fun _ => rfl) hP hD hS (va_runV (rm := rm_addAll) (As := [.int (zI ((t + 1 : Nat) : Int)), .ref ms, .int (zI (((en v) % 256 : Nat) : Int))]) (rest := []) ⟨hx, hb, hml, hown, hts⟩ (c_addAll l D c rc rcw 1001 (pbk rv en mf t x v) (t + 1) ms msw (ne + 1) mf (en v % 256) (by omega) (by omega) (by omega) (hoc v (by omega))) (cwV 3 hts (gWV k_Mo_m48 k_i_Se_addAll k_v_Se_addAll k_n_Se k_c_Se_addAll) rfl rfl rfl (by decide +kernel) ⟨Nat.le_of_ble_eq_true rfl, Nat.le_of_ble_eq_true rfl⟩) ⟨zblindW, va_recv hK hPc (ci := 3) (q0 := 0) rfl rfl, fun U hU hW => ⟨rfl, ⟨by rw [hU]; exact hPc, hDt⟩, hKN.moved hW⟩⟩ rfl rfl hl.1 rfl (lv_room (Nat.le_of_ble_eq_true rfl)) d_Mo_putBehind_66 ⟨Nat.zero_le _, Nat.zero_le _⟩) (fun u H locs hp_5 hP hD hS => ?_)
            have hP : va_P D vwCl [(mo, .inr (1, [.ref me, .ref ms, .int (zB dt)])), (me, .inl (c 0, ne, .inl (fun j => zI ((en j : Nat) : Int)))), (ms, .inr (3, [.ref msw])), (msw, .inl (c 2, 4 * (ne + 1), .inr (.inl mf))), (rc, .inr (3, [.ref rcw])), (rcw, .inl (c 2, 4 * 1001, .inr (.inl (zor (pbk rv en mf t x v) (t + 1) mf (en v % 256)))))] H := hP
            have hD : va_D A [(mo, .inr (1, [.ref me, .ref ms, .int (zB dt)])), (me, .inl (c 0, ne, .inl (fun j => zI ((en j : Nat) : Int)))), (ms, .inr (3, [.ref msw])), (msw, .inl (c 2, 4 * (ne + 1), .inr (.inl mf))), (rc, .inr (3, [.ref rcw])), (rcw, .inl (c 2, 4 * 1001, .inr (.inl (zor (pbk rv en mf t x v) (t + 1) mf (en v % 256)))))] := hD
            refine lv_iinc (v := zI ((v + 1 : Nat) : Int)) (lv' := [(4, .int (zI ((v + 1 : Nat) : Int))), (5, .int (zI (((en v) % 256 : Nat) : Int))), (0, .ref mo), (1, .ref rc), (2, .int (zI ((t : Nat) : Int))), (3, .int (zI ((x : Nat) : Int)))]) hx hb d_Mo_putBehind_69 hl (k := 1) rfl (z_incN _ 1) (by decide) rfl (fun ls hl => ?_)
            refine lv_goto (tgt := 10) hx hb d_Mo_putBehind_72 (by decide) ?_
            exact ih_10 (v + 1) (by omega) (by omega) _ _ (by rw [pbk_T (by omega) hc_53]; exact hP) (z_D_congr (by rfl) hD) hS _ (lv_sub hl [0, 2, 3, 4, 5] rfl)
  exact lp_10 _ 0 (Nat.lt_succ_self _) (by omega) _ _ hP hD hS _ (lv_sub hl [0, 1, 2, 3, 4] rfl)

def rm_hasName : Room := { frames := 3, cells := 0, slots := 0, locals := 65 }
set_option maxHeartbeats 4000000 in
set_option maxRecDepth 100000 in
/-- Model.hasName -/
theorem c_hasName (l : Launch) (D : va_G) (c : Nat → ClassId) (rc : Nat) (rcw : Nat) (rv : Nat → Int64) (mo : Nat) (me : Nat) (ms : Nat) (msw : Nat) (en : Nat → Nat) (ne : Nat) (mf : Nat → Int64) (dt : Bool) (t : Nat) (x : Int) (hne : ne ≤ 255) (hen : ∀ j, j < ne → en j < 300000) (ht : t < 1001) (hx_ : -2147483648 ≤ x ∧ x < 2147483648) : Met l y_Mo_hasName w_Mo_hasName rm_hasName (va_Pc [.ref mo, .ref rc, .int (zI ((t : Nat) : Int)), .int (zI x)] (fun U => va_P D vwCl [(mo, .inr (1, [.ref me, .ref ms, .int (zB dt)])), (me, .inl (c 0, ne, .inl (fun j => zI ((en j : Nat) : Int)))), (rc, .inr (3, [.ref rcw])), (rcw, .inl (c 2, 4 * 1001, .inr (.inl rv)))] U.heap ∧ zK D c U)) (vp_Si (fun r => r = (zB (hnm rv en t x ne)))) 0 0 (fun _ => False) := by
  refine Met.ofW (cc := b_Mo_hasName) (maxL := 5) (ret := (some .boolean)) (by decide) rfl ?_
  intro p e s m args below meth c0 s₁ B hml hv
  obtain ⟨rfl, hP, hKN⟩ := hv
  have hK := hKN.1
  have hN := hKN.2
  have hx := B.exec
  have hb := B.bytes
  have hr := B.returns
  have hts := atoms_spec (ws := w_Mo_hasName) B.pre
  have hw : ∀ {w : Cond}, w ∈ ALLW → w.before _ s = true := fun h => hts _ (List.mem_cons_of_mem _ h)
  have hown : s.vm.findClass R_Mo = some m.cls := findClass_of_methodNamed B.named
  have hlocks := B.notSynchronized
  have hl := lv_entry ([.ref mo, .ref rc, .int (zI ((t : Nat) : Int)), .int (zI x)]) (n := 5) (Nat.le_of_ble_eq_true rfl)
  rw [lg_entry_eq]
  generalize (lg_sl ([.ref mo, .ref rc, .int (zI ((t : Nat) : Int)), .int (zI x)]) ++ List.replicate (5 - (lg_sl ([.ref mo, .ref rc, .int (zI ((t : Nat) : Int)), .int (zI x)])).length) Slot.unset).toArray = ls at hl ⊢
  have hl : lv_has ls 5 [(0, .ref mo), (1, .ref rc), (2, .int (zI ((t : Nat) : Int))), (3, .int (zI x))] := hl
  generalize hQ : MQ below _ _ _ _ _ _ = Q
  refine lv_iconst (v := zI 0) hx hb d_Mo_hasName_0 (by decide) ?_
  refine lv_istore (lv' := [(4, .int (zI 0)), (0, .ref mo), (1, .ref rc), (2, .int (zI ((t : Nat) : Int))), (3, .int (zI x))]) hx hb d_Mo_hasName_1 hl (by decide) rfl (fun ls hl => ?_)
  have lp_3 : ∀ (k_ : Nat) (v : Nat), ne - v < k_ → (v ≤ ne) → (hnm rv en t x v = false) → ∀ ls : Array Slot, lv_has ls 5 [(4, .int (zI ((v : Nat) : Int))), (0, .ref mo), (1, .ref rc), (2, .int (zI ((t : Nat) : Int))), (3, .int (zI x))] → W p l e (headSpec w_Mo_hasName rm_hasName).room s m ([.ref mo, .ref rc, .int (zI ((t : Nat) : Int)), .int (zI x)] : List Value).toArray below meth c0 s.heap [] 0 0 Q (F0 m 3 ls []) := by
    intro k_
    induction k_ with
    | zero => intro v hk_; exact absurd hk_ (Nat.not_lt_zero _)
    | succ k_ ih_3 =>
      intro v hk_ hv hhn ls hl
      refine lv_iload hx hb d_Mo_hasName_3 (lv_at hl 0 rfl) ?_
      refine lv_aload_n hx hb d_Mo_hasName_5 rfl (lv_at hl 1 rfl) ?_
      refine va_get (D := D) (ci := 1) (v := .ref me) (C := R_Mo) (T := T_Mo) (N := 3) hx hb hts (fun w h => List.mem_cons_of_mem _ (inA_Mo w h)) hown hK hP 0 rfl rfl 0 (by decide) (hw k_Mo_f9) (fun _ h9 => h9) rfl d_Mo_hasName_6 ?_
      refine z_alen hx hb hK hP 1 0 rfl rfl d_Mo_hasName_9 ?_
      refine z_top (v2 := .int (zI ((ne : Nat) : Int))) rfl ?_
      refine z_icmp_ge (tgt := 53) hx hb (by omega) d_Mo_hasName_10 (by decide) (fun hc_10 => ?_) (fun hc_10 => ?_)
      · refine lv_iconst (v := zI 0) hx hb d_Mo_hasName_53 (by decide) ?_
        have e_ : v = ne := by omega
        rw [e_] at hhn
        subst hQ
        exact W.zret (ty := .boolean) (v := (zI 0)) hx hb hr (by decide) (fun t9 ht hW => ⟨_, rfl, (by rw [hhn]; decide), ht⟩) (fun q hq => absurd hq List.not_mem_nil) d_Mo_hasName_54
      · have hev := hen v (by omega)
        refine lv_aload_n hx hb d_Mo_hasName_13 rfl (lv_at hl 1 rfl) ?_
        refine va_get (D := D) (ci := 1) (v := .ref me) (C := R_Mo) (T := T_Mo) (N := 3) hx hb hts (fun w h => List.mem_cons_of_mem _ (inA_Mo w h)) hown hK hP 0 rfl rfl 0 (by decide) (hw k_Mo_f9) (fun _ h9 => h9) rfl d_Mo_hasName_14 ?_
        refine lv_iload hx hb d_Mo_hasName_17 (lv_at hl 0 rfl) ?_
        refine z_uald hx hb hK hP 1 0 rfl rfl (v) (by omega) (by omega) (by omega) d_Mo_hasName_19 ?_
        have hPc : va_P D vwCl [] s.heap := hP.sub (ws' := []) [] rfl
        refine vp_callSi (va_runS (rm := rm_nameOf) (As := [.int (zI ((en v : Nat) : Int))]) (rest := []) ⟨hx, hb, hml, hown, hts⟩ (c_nameOf l D c (en v) (by omega)) (va_cwS 1 hts (gWS k_Mo_m41 k_s_Mo_nameOf k_n_Mo k_c_Mo_nameOf) rfl rfl rfl (by decide +kernel) ⟨Nat.le_of_ble_eq_true rfl, Nat.le_of_ble_eq_true rfl⟩) ⟨zblind, fun U hU hW => ⟨rfl, by rw [hU]; exact hPc, hKN.moved hW⟩⟩ rfl rfl hl.1 rfl (lv_room (Nat.le_of_ble_eq_true rfl)) d_Mo_hasName_20 ⟨Nat.zero_le _, Nat.zero_le _⟩).run (fun r hr_1 => ?_)
        subst hr_1
        refine lv_iload_n hx hb d_Mo_hasName_23 rfl (lv_at hl 4 rfl) ?_
        refine z_icmp_ne (tgt := 47) hx hb (by omega) d_Mo_hasName_24 (by decide) (fun hc_24 => ?_) (fun hc_24 => ?_)
        · refine lv_iinc (v := zI ((v + 1 : Nat) : Int)) (lv' := [(4, .int (zI ((v + 1 : Nat) : Int))), (0, .ref mo), (1, .ref rc), (2, .int (zI ((t : Nat) : Int))), (3, .int (zI x))]) hx hb d_Mo_hasName_47 hl (k := 0) rfl (z_incN _ 1) (by decide) rfl (fun ls hl => ?_)
          refine lv_goto (tgt := 3) hx hb d_Mo_hasName_50 (by decide) ?_
          exact ih_3 (v + 1) (by omega) (by omega) (by rw [hnm, hhn]; first | (rw [hc_42, Bool.and_false]; rfl) | (rw [decide_eq_false hc_24]; rfl)) _ (lv_sub hl [0, 1, 2, 3, 4] rfl)
        · refine lv_aload_n hx hb d_Mo_hasName_27 rfl (lv_at hl 2 rfl) ?_
          refine lv_iload_n hx hb d_Mo_hasName_28 rfl (lv_at hl 3 rfl) ?_
          refine lv_aload_n hx hb d_Mo_hasName_29 rfl (lv_at hl 1 rfl) ?_
          refine va_get (D := D) (ci := 1) (v := .ref me) (C := R_Mo) (T := T_Mo) (N := 3) hx hb hts (fun w h => List.mem_cons_of_mem _ (inA_Mo w h)) hown hK hP 0 rfl rfl 0 (by decide) (hw k_Mo_f9) (fun _ h9 => h9) rfl d_Mo_hasName_30 ?_
          refine lv_iload hx hb d_Mo_hasName_33 (lv_at hl 0 rfl) ?_
          refine z_uald hx hb hK hP 1 0 rfl rfl (v) (by omega) (by omega) (by omega) d_Mo_hasName_35 ?_
          have hPc : va_P D vwCl [] s.heap := hP.sub (ws' := []) [] rfl
          refine vp_callSi (va_runS (rm := rm_occurrenceOf) (As := [.int (zI ((en v : Nat) : Int))]) (rest := [.int (zI ((t : Nat) : Int)), .ref rc]) ⟨hx, hb, hml, hown, hts⟩ (c_occurrenceOf l D c (en v) (by omega)) (va_cwS 1 hts (gWS k_Mo_m31 k_s_Mo_occurrenceOf k_n_Mo k_c_Mo_occurrenceOf) rfl rfl rfl (by decide +kernel) ⟨Nat.le_of_ble_eq_true rfl, Nat.le_of_ble_eq_true rfl⟩) ⟨zblind, fun U hU hW => ⟨rfl, by rw [hU]; exact hPc, hKN.moved hW⟩⟩ rfl rfl hl.1 rfl (lv_room (Nat.le_of_ble_eq_true rfl)) d_Mo_hasName_36 ⟨Nat.zero_le _, Nat.zero_le _⟩).run (fun r hr_2 => ?_)
          subst hr_2
          have hPc : va_P D vwCl [(rc, .inr (3, [.ref rcw])), (rcw, .inl (c 2, 4 * 1001, .inr (.inl rv)))] s.heap := hP.sub (ws' := [(rc, .inr (3, [.ref rcw])), (rcw, .inl (c 2, 4 * 1001, .inr (.inl rv)))]) [2, 3] rfl
          refine vp_callSi (va_runV (rm := rm_holds) (As := [.int (zI ((t : Nat) : Int)), .int (zI (((en v) % 256 : Nat) : Int))]) (rest := []) ⟨hx, hb, hml, hown, hts⟩ (c_holds l D c rc rcw 1001 rv t (en v % 256) (by omega) (by omega) (by omega)) (cwV 2 hts (gWV k_Mo_m35 k_i_Se_holds k_v_Se_holds k_n_Se k_c_Se_holds) rfl rfl rfl (by decide +kernel) ⟨Nat.le_of_ble_eq_true rfl, Nat.le_of_ble_eq_true rfl⟩) ⟨zblind, va_recv hK hPc (ci := 3) (q0 := 0) rfl rfl, fun U hU hW => ⟨rfl, by rw [hU]; exact hPc, hKN.moved hW⟩⟩ rfl rfl hl.1 rfl (lv_room (Nat.le_of_ble_eq_true rfl)) d_Mo_hasName_39 ⟨Nat.zero_le _, Nat.zero_le _⟩).run (fun r hr_3 => ?_)
          subst hr_3
          refine z_ifeq_B (tgt := 47) hx hb d_Mo_hasName_42 (by decide) (fun hc_42 => ?_) (fun hc_42 => ?_)
          · refine lv_iinc (v := zI ((v + 1 : Nat) : Int)) (lv' := [(4, .int (zI ((v + 1 : Nat) : Int))), (0, .ref mo), (1, .ref rc), (2, .int (zI ((t : Nat) : Int))), (3, .int (zI x))]) hx hb d_Mo_hasName_47 hl (k := 0) rfl (z_incN _ 1) (by decide) rfl (fun ls hl => ?_)
            refine lv_goto (tgt := 3) hx hb d_Mo_hasName_50 (by decide) ?_
            exact ih_3 (v + 1) (by omega) (by omega) (by rw [hnm, hhn]; first | (rw [hc_42, Bool.and_false]; rfl) | (rw [decide_eq_false hc_24]; rfl)) _ (lv_sub hl [0, 1, 2, 3, 4] rfl)
          · refine lv_iconst (v := zI 1) hx hb d_Mo_hasName_45 (by decide) ?_
            subst hQ
            exact W.zret (ty := .boolean) (v := (zI 1)) hx hb hr (by decide) (fun t9 ht hW => ⟨_, rfl, (by rw [hnm_mono (i := v + 1) (by omega) (by rw [hnm, decide_eq_true hc_24, hc_42]; simp)]; decide), ht⟩) (fun q hq => absurd hq List.not_mem_nil) d_Mo_hasName_46
  exact lp_3 _ 0 (Nat.lt_succ_self _) (by omega) rfl _ (lv_sub hl [0, 1, 2, 3, 4] rfl)

theorem naC_le (rv : Nat → Int64) (en : Nat → Nat) (t : Nat) : ∀ i, naC rv en t i ≤ i
  | 0 => Nat.le_refl _
  | i + 1 => by
    rw [naC]
    have := naC_le rv en t i
    split <;> omega
theorem naB_T {rv : Nat → Int64} {en : Nat → Nat} {t i : Nat} (h1 : ¬ en i / 256 = naB rv en t i) (h2 : zbt rv t (en i % 256) = true) : naB rv en t (i + 1) = en i / 256 := by rw [naB, if_pos ⟨h1, h2⟩]
theorem naB_F {rv : Nat → Int64} {en : Nat → Nat} {t i : Nat} (h : ¬ (¬ en i / 256 = naB rv en t i ∧ zbt rv t (en i % 256) = true)) : naB rv en t (i + 1) = naB rv en t i := by rw [naB, if_neg h]
theorem naC_T {rv : Nat → Int64} {en : Nat → Nat} {t i : Nat} (h1 : ¬ en i / 256 = naB rv en t i) (h2 : zbt rv t (en i % 256) = true) : naC rv en t (i + 1) = naC rv en t i + 1 := by rw [naC, if_pos ⟨h1, h2⟩]
theorem naC_F {rv : Nat → Int64} {en : Nat → Nat} {t i : Nat} (h : ¬ (¬ en i / 256 = naB rv en t i ∧ zbt rv t (en i % 256) = true)) : naC rv en t (i + 1) = naC rv en t i := by rw [naC, if_neg h]

def rm_nameAt : Room := { frames := 3, cells := 0, slots := 0, locals := 65 }
set_option maxHeartbeats 4000000 in
set_option maxRecDepth 100000 in
/-- Model.nameAt -/
theorem c_nameAt (l : Launch) (D : va_G) (c : Nat → ClassId) (rc : Nat) (rcw : Nat) (rv : Nat → Int64) (mo : Nat) (me : Nat) (ms : Nat) (msw : Nat) (en : Nat → Nat) (ne : Nat) (mf : Nat → Int64) (dt : Bool) (t : Nat) (x : Int) (hne : ne ≤ 255) (hen : ∀ j, j < ne → en j < 300000) (ht : t < 1001) (hx_ : -2147483648 ≤ x ∧ x < 2147483648) : Met l y_Mo_nameAt w_Mo_nameAt rm_nameAt (va_Pc [.ref mo, .ref rc, .int (zI ((t : Nat) : Int)), .int (zI x)] (fun U => va_P D vwCl [(mo, .inr (1, [.ref me, .ref ms, .int (zB dt)])), (me, .inl (c 0, ne, .inl (fun j => zI ((en j : Nat) : Int)))), (rc, .inr (3, [.ref rcw])), (rcw, .inl (c 2, 4 * 1001, .inr (.inl rv)))] U.heap ∧ zK D c U)) (vp_Si (fun r => r = (zI (naR rv en t x ne)))) 0 0 (fun _ => False) := by
  refine Met.ofW (cc := b_Mo_nameAt) (maxL := 8) (ret := (some .int)) (by decide) rfl ?_
  intro p e s m args below meth c0 s₁ B hml hv
  obtain ⟨rfl, hP, hKN⟩ := hv
  have hK := hKN.1
  have hN := hKN.2
  have hx := B.exec
  have hb := B.bytes
  have hr := B.returns
  have hts := atoms_spec (ws := w_Mo_nameAt) B.pre
  have hw : ∀ {w : Cond}, w ∈ ALLW → w.before _ s = true := fun h => hts _ (List.mem_cons_of_mem _ h)
  have hown : s.vm.findClass R_Mo = some m.cls := findClass_of_methodNamed B.named
  have hlocks := B.notSynchronized
  have hl := lv_entry ([.ref mo, .ref rc, .int (zI ((t : Nat) : Int)), .int (zI x)]) (n := 8) (Nat.le_of_ble_eq_true rfl)
  rw [lg_entry_eq]
  generalize (lg_sl ([.ref mo, .ref rc, .int (zI ((t : Nat) : Int)), .int (zI x)]) ++ List.replicate (8 - (lg_sl ([.ref mo, .ref rc, .int (zI ((t : Nat) : Int)), .int (zI x)])).length) Slot.unset).toArray = ls at hl ⊢
  have hl : lv_has ls 8 [(0, .ref mo), (1, .ref rc), (2, .int (zI ((t : Nat) : Int))), (3, .int (zI x))] := hl
  generalize hQ : MQ below _ _ _ _ _ _ = Q
  refine lv_iconst (v := zI (-1)) hx hb d_Mo_nameAt_0 (by decide) ?_
  refine lv_istore (lv' := [(4, .int (zI (-1))), (0, .ref mo), (1, .ref rc), (2, .int (zI ((t : Nat) : Int))), (3, .int (zI x))]) hx hb d_Mo_nameAt_1 hl (by decide) rfl (fun ls hl => ?_)
  refine lv_iconst (v := zI 0) hx hb d_Mo_nameAt_3 (by decide) ?_
  refine lv_istore (lv' := [(5, .int (zI 0)), (4, .int (zI (-1))), (0, .ref mo), (1, .ref rc), (2, .int (zI ((t : Nat) : Int))), (3, .int (zI x))]) hx hb d_Mo_nameAt_4 hl (by decide) rfl (fun ls hl => ?_)
  refine lv_iconst (v := zI 0) hx hb d_Mo_nameAt_6 (by decide) ?_
  refine lv_istore (lv' := [(6, .int (zI 0)), (5, .int (zI 0)), (4, .int (zI (-1))), (0, .ref mo), (1, .ref rc), (2, .int (zI ((t : Nat) : Int))), (3, .int (zI x))]) hx hb d_Mo_nameAt_7 hl (by decide) rfl (fun ls hl => ?_)
  have lp_9 : ∀ (k_ : Nat) (v : Nat), ne - v < k_ → (v ≤ ne) → (naB rv en t v < 300000) → (naR rv en t x v = -1) → ∀ ls : Array Slot, lv_has ls 8 [(6, .int (zI ((v : Nat) : Int))), (5, .int (zI ((naB rv en t v : Nat) : Int))), (4, .int (zI (((naC rv en t v : Nat) : Int) - 1))), (0, .ref mo), (1, .ref rc), (2, .int (zI ((t : Nat) : Int))), (3, .int (zI x))] → W p l e (headSpec w_Mo_nameAt rm_nameAt).room s m ([.ref mo, .ref rc, .int (zI ((t : Nat) : Int)), .int (zI x)] : List Value).toArray below meth c0 s.heap [] 0 0 Q (F0 m 9 ls []) := by
    intro k_
    induction k_ with
    | zero => intro v hk_; exact absurd hk_ (Nat.not_lt_zero _)
    | succ k_ ih_9 =>
      intro v hk_ hv hbb hna ls hl
      refine lv_iload hx hb d_Mo_nameAt_9 (lv_at hl 0 rfl) ?_
      refine lv_aload_n hx hb d_Mo_nameAt_11 rfl (lv_at hl 3 rfl) ?_
      refine va_get (D := D) (ci := 1) (v := .ref me) (C := R_Mo) (T := T_Mo) (N := 3) hx hb hts (fun w h => List.mem_cons_of_mem _ (inA_Mo w h)) hown hK hP 0 rfl rfl 0 (by decide) (hw k_Mo_f9) (fun _ h9 => h9) rfl d_Mo_nameAt_12 ?_
      refine z_alen hx hb hK hP 1 0 rfl rfl d_Mo_nameAt_15 ?_
      refine z_top (v2 := .int (zI ((ne : Nat) : Int))) rfl ?_
      refine z_icmp_ge (tgt := 78) hx hb (by omega) d_Mo_nameAt_16 (by decide) (fun hc_16 => ?_) (fun hc_16 => ?_)
      · refine lv_iconst (v := zI (-1)) hx hb d_Mo_nameAt_78 (by decide) ?_
        have e_ : v = ne := by omega
        rw [e_] at hna
        subst hQ
        exact W.iret (v := (zI (-1))) hx hb hr (fun t9 ht hW => ⟨_, rfl, (by rw [hna]), ht⟩) (fun q hq => absurd hq List.not_mem_nil) d_Mo_nameAt_79
      · have hev := hen v (by omega)
        have hcl := naC_le rv en t v
        refine lv_aload_n hx hb d_Mo_nameAt_19 rfl (lv_at hl 3 rfl) ?_
        refine va_get (D := D) (ci := 1) (v := .ref me) (C := R_Mo) (T := T_Mo) (N := 3) hx hb hts (fun w h => List.mem_cons_of_mem _ (inA_Mo w h)) hown hK hP 0 rfl rfl 0 (by decide) (hw k_Mo_f9) (fun _ h9 => h9) rfl d_Mo_nameAt_20 ?_
        refine lv_iload hx hb d_Mo_nameAt_23 (lv_at hl 0 rfl) ?_
        refine z_uald hx hb hK hP 1 0 rfl rfl (v) (by omega) (by omega) (by omega) d_Mo_nameAt_25 ?_
        have hPc : va_P D vwCl [] s.heap := hP.sub (ws' := []) [] rfl
        refine vp_callSi (va_runS (rm := rm_nameOf) (As := [.int (zI ((en v : Nat) : Int))]) (rest := []) ⟨hx, hb, hml, hown, hts⟩ (c_nameOf l D c (en v) (by omega)) (va_cwS 1 hts (gWS k_Mo_m41 k_s_Mo_nameOf k_n_Mo k_c_Mo_nameOf) rfl rfl rfl (by decide +kernel) ⟨Nat.le_of_ble_eq_true rfl, Nat.le_of_ble_eq_true rfl⟩) ⟨zblind, fun U hU hW => ⟨rfl, by rw [hU]; exact hPc, hKN.moved hW⟩⟩ rfl rfl hl.1 rfl (lv_room (Nat.le_of_ble_eq_true rfl)) d_Mo_nameAt_26 ⟨Nat.zero_le _, Nat.zero_le _⟩).run (fun r hr_1 => ?_)
        subst hr_1
        refine lv_istore (lv' := [(7, .int (zI (((en v) / 256 : Nat) : Int))), (6, .int (zI ((v : Nat) : Int))), (5, .int (zI ((naB rv en t v : Nat) : Int))), (4, .int (zI (((naC rv en t v : Nat) : Int) - 1))), (0, .ref mo), (1, .ref rc), (2, .int (zI ((t : Nat) : Int))), (3, .int (zI x))]) hx hb d_Mo_nameAt_29 hl (by decide) rfl (fun ls hl => ?_)
        refine lv_iload hx hb d_Mo_nameAt_31 (lv_at hl 0 rfl) ?_
        refine lv_iload hx hb d_Mo_nameAt_33 (lv_at hl 2 rfl) ?_
        refine z_icmp_eq (tgt := 72) hx hb (by omega) d_Mo_nameAt_35 (by decide) (fun hc_35 => ?_) (fun hc_35 => ?_)
        · refine lv_iinc (v := zI ((v + 1 : Nat) : Int)) (lv' := [(6, .int (zI ((v + 1 : Nat) : Int))), (7, .int (zI (((en v) / 256 : Nat) : Int))), (5, .int (zI ((naB rv en t v : Nat) : Int))), (4, .int (zI (((naC rv en t v : Nat) : Int) - 1))), (0, .ref mo), (1, .ref rc), (2, .int (zI ((t : Nat) : Int))), (3, .int (zI x))]) hx hb d_Mo_nameAt_72 hl (k := 1) rfl (z_incN _ 1) (by decide) rfl (fun ls hl => ?_)
          refine lv_goto (tgt := 9) hx hb d_Mo_nameAt_75 (by decide) ?_
          exact ih_9 (v + 1) (by omega) (by omega) (by rw [naB_F (fun q_ => by first | exact absurd q_.2 (by rw [hc_53]; decide) | exact q_.1 (by omega))]; exact hbb) (by rw [naR, hna, if_pos rfl, if_neg]; intro q_; first | exact absurd q_.1.2 (by rw [hc_53]; decide) | exact q_.1.1 (by omega) | exact hc_66 (by have := q_.2; omega)) _ (by rw [naB_F (fun q_ => by first | exact absurd q_.2 (by rw [hc_53]; decide) | exact q_.1 (by omega)), naC_F (fun q_ => by first | exact absurd q_.2 (by rw [hc_53]; decide) | exact q_.1 (by omega))]; exact lv_sub hl [0, 2, 3, 4, 5, 6, 7] rfl)
        · refine lv_aload_n hx hb d_Mo_nameAt_38 rfl (lv_at hl 5 rfl) ?_
          refine lv_iload_n hx hb d_Mo_nameAt_39 rfl (lv_at hl 6 rfl) ?_
          refine lv_aload_n hx hb d_Mo_nameAt_40 rfl (lv_at hl 4 rfl) ?_
          refine va_get (D := D) (ci := 1) (v := .ref me) (C := R_Mo) (T := T_Mo) (N := 3) hx hb hts (fun w h => List.mem_cons_of_mem _ (inA_Mo w h)) hown hK hP 0 rfl rfl 0 (by decide) (hw k_Mo_f9) (fun _ h9 => h9) rfl d_Mo_nameAt_41 ?_
          refine lv_iload hx hb d_Mo_nameAt_44 (lv_at hl 1 rfl) ?_
          refine z_uald hx hb hK hP 1 0 rfl rfl (v) (by omega) (by omega) (by omega) d_Mo_nameAt_46 ?_
          have hPc : va_P D vwCl [] s.heap := hP.sub (ws' := []) [] rfl
          refine vp_callSi (va_runS (rm := rm_occurrenceOf) (As := [.int (zI ((en v : Nat) : Int))]) (rest := [.int (zI ((t : Nat) : Int)), .ref rc]) ⟨hx, hb, hml, hown, hts⟩ (c_occurrenceOf l D c (en v) (by omega)) (va_cwS 1 hts (gWS k_Mo_m31 k_s_Mo_occurrenceOf k_n_Mo k_c_Mo_occurrenceOf) rfl rfl rfl (by decide +kernel) ⟨Nat.le_of_ble_eq_true rfl, Nat.le_of_ble_eq_true rfl⟩) ⟨zblind, fun U hU hW => ⟨rfl, by rw [hU]; exact hPc, hKN.moved hW⟩⟩ rfl rfl hl.1 rfl (lv_room (Nat.le_of_ble_eq_true rfl)) d_Mo_nameAt_47 ⟨Nat.zero_le _, Nat.zero_le _⟩).run (fun r hr_2 => ?_)
          subst hr_2
          have hPc : va_P D vwCl [(rc, .inr (3, [.ref rcw])), (rcw, .inl (c 2, 4 * 1001, .inr (.inl rv)))] s.heap := hP.sub (ws' := [(rc, .inr (3, [.ref rcw])), (rcw, .inl (c 2, 4 * 1001, .inr (.inl rv)))]) [2, 3] rfl
          refine vp_callSi (va_runV (rm := rm_holds) (As := [.int (zI ((t : Nat) : Int)), .int (zI (((en v) % 256 : Nat) : Int))]) (rest := []) ⟨hx, hb, hml, hown, hts⟩ (c_holds l D c rc rcw 1001 rv t (en v % 256) (by omega) (by omega) (by omega)) (cwV 2 hts (gWV k_Mo_m35 k_i_Se_holds k_v_Se_holds k_n_Se k_c_Se_holds) rfl rfl rfl (by decide +kernel) ⟨Nat.le_of_ble_eq_true rfl, Nat.le_of_ble_eq_true rfl⟩) ⟨zblind, va_recv hK hPc (ci := 3) (q0 := 0) rfl rfl, fun U hU hW => ⟨rfl, by rw [hU]; exact hPc, hKN.moved hW⟩⟩ rfl rfl hl.1 rfl (lv_room (Nat.le_of_ble_eq_true rfl)) d_Mo_nameAt_50 ⟨Nat.zero_le _, Nat.zero_le _⟩).run (fun r hr_3 => ?_)
          subst hr_3
          refine z_ifeq_B (tgt := 72) hx hb d_Mo_nameAt_53 (by decide) (fun hc_53 => ?_) (fun hc_53 => ?_)
          · refine lv_iinc (v := zI ((v + 1 : Nat) : Int)) (lv' := [(6, .int (zI ((v + 1 : Nat) : Int))), (7, .int (zI (((en v) / 256 : Nat) : Int))), (5, .int (zI ((naB rv en t v : Nat) : Int))), (4, .int (zI (((naC rv en t v : Nat) : Int) - 1))), (0, .ref mo), (1, .ref rc), (2, .int (zI ((t : Nat) : Int))), (3, .int (zI x))]) hx hb d_Mo_nameAt_72 hl (k := 1) rfl (z_incN _ 1) (by decide) rfl (fun ls hl => ?_)
            refine lv_goto (tgt := 9) hx hb d_Mo_nameAt_75 (by decide) ?_
            exact ih_9 (v + 1) (by omega) (by omega) (by rw [naB_F (fun q_ => by first | exact absurd q_.2 (by rw [hc_53]; decide) | exact q_.1 (by omega))]; exact hbb) (by rw [naR, hna, if_pos rfl, if_neg]; intro q_; first | exact absurd q_.1.2 (by rw [hc_53]; decide) | exact q_.1.1 (by omega) | exact hc_66 (by have := q_.2; omega)) _ (by rw [naB_F (fun q_ => by first | exact absurd q_.2 (by rw [hc_53]; decide) | exact q_.1 (by omega)), naC_F (fun q_ => by first | exact absurd q_.2 (by rw [hc_53]; decide) | exact q_.1 (by omega))]; exact lv_sub hl [0, 2, 3, 4, 5, 6, 7] rfl)
          · refine lv_iload hx hb d_Mo_nameAt_56 (lv_at hl 0 rfl) ?_
            refine lv_istore (lv' := [(5, .int (zI (((en v) / 256 : Nat) : Int))), (7, .int (zI (((en v) / 256 : Nat) : Int))), (6, .int (zI ((v : Nat) : Int))), (4, .int (zI (((naC rv en t v : Nat) : Int) - 1))), (0, .ref mo), (1, .ref rc), (2, .int (zI ((t : Nat) : Int))), (3, .int (zI x))]) hx hb d_Mo_nameAt_58 hl (by decide) rfl (fun ls hl => ?_)
            refine lv_iinc (v := zI ((((naC rv en t v : Nat) : Int) - 1) + 1)) (lv' := [(4, .int (zI ((((naC rv en t v : Nat) : Int) - 1) + 1))), (5, .int (zI (((en v) / 256 : Nat) : Int))), (7, .int (zI (((en v) / 256 : Nat) : Int))), (6, .int (zI ((v : Nat) : Int))), (0, .ref mo), (1, .ref rc), (2, .int (zI ((t : Nat) : Int))), (3, .int (zI x))]) hx hb d_Mo_nameAt_60 hl (k := 3) rfl (zI_add _ _) (by decide) rfl (fun ls hl => ?_)
            refine lv_iload hx hb d_Mo_nameAt_63 (lv_at hl 0 rfl) ?_
            refine lv_iload_n hx hb d_Mo_nameAt_65 rfl (lv_at hl 7 rfl) ?_
            refine z_icmp_ne (tgt := 72) hx hb (by omega) d_Mo_nameAt_66 (by decide) (fun hc_66 => ?_) (fun hc_66 => ?_)
            · refine lv_iinc (v := zI ((v + 1 : Nat) : Int)) (lv' := [(6, .int (zI ((v + 1 : Nat) : Int))), (4, .int (zI ((((naC rv en t v : Nat) : Int) - 1) + 1))), (5, .int (zI (((en v) / 256 : Nat) : Int))), (7, .int (zI (((en v) / 256 : Nat) : Int))), (0, .ref mo), (1, .ref rc), (2, .int (zI ((t : Nat) : Int))), (3, .int (zI x))]) hx hb d_Mo_nameAt_72 hl (k := 3) rfl (z_incN _ 1) (by decide) rfl (fun ls hl => ?_)
              refine lv_goto (tgt := 9) hx hb d_Mo_nameAt_75 (by decide) ?_
              exact ih_9 (v + 1) (by omega) (by omega) (by rw [naB_T (by omega) hc_53]; omega) (by rw [naR, hna, if_pos rfl, if_neg]; intro q_; first | exact absurd q_.1.2 (by rw [hc_53]; decide) | exact q_.1.1 (by omega) | exact hc_66 (by have := q_.2; omega)) _ (by rw [naB_T (by omega) hc_53, naC_T (by omega) hc_53, show (((naC rv en t v + 1 : Nat) : Int) - 1) = ((naC rv en t v : Nat) : Int) - 1 + 1 by omega]; exact lv_sub hl [0, 2, 1, 4, 5, 6, 7] rfl)
            · refine lv_iload hx hb d_Mo_nameAt_69 (lv_at hl 2 rfl) ?_
              subst hQ
              exact W.iret (v := (zI (((en v) / 256 : Nat) : Int))) hx hb hr (fun t9 ht hW => ⟨_, rfl, (by rw [naR_mono (r := ((en v / 256 : Nat) : Int)) (by omega) (i := v + 1) (by omega) (by rw [naR, hna, if_pos rfl, if_pos ⟨⟨by omega, hc_53⟩, by omega⟩])]), ht⟩) (fun q hq => absurd hq List.not_mem_nil) d_Mo_nameAt_71
  exact lp_9 _ 0 (Nat.lt_succ_self _) (by omega) (by show 0 < 300000; omega) rfl _ (lv_sub hl [0, 1, 2, 3, 4, 5, 6] rfl)
end
section
def rm_startWith : Room := { frames := 3, cells := 0, slots := 0, locals := 67 }
set_option maxHeartbeats 4000000 in
set_option maxRecDepth 100000 in
/-- Reading.startWith -/
theorem c_startWith (l : Launch) (D : va_G) (c : Nat → ClassId) (rd : Nat) (rn : Nat) (rc : Nat) (rcw : Nat) (rm_ : Option Nat) (nr : Nat → Nat) (rv : Nat → Int64) (ct : Nat) (mo : Nat) (me : Nat) (ms : Nat) (msw : Nat) (en : Nat → Nat) (ne : Nat) (mf : Nat → Int64) (dt : Bool) (hne : ne ≤ 255) (hen : ∀ j, j < ne → en j < 300000) : Met l y_Re_startWith w_Re_startWith rm_startWith (va_Pc [.ref rd, .ref mo] (fun U => (va_P D vwCl [(rd, .inr (2, [.ref rn, .ref rc, va_rf rm_, .int (zI ((ct : Nat) : Int))])), (rc, .inr (3, [.ref rcw])), (rcw, .inl (c 2, 4 * 1001, .inr (.inl rv))), (mo, .inr (1, [.ref me, .ref ms, .int (zB dt)])), (me, .inl (c 0, ne, .inl (fun j => zI ((en j : Nat) : Int)))), (ms, .inr (3, [.ref msw])), (msw, .inl (c 2, 4 * (ne + 1), .inr (.inl mf)))] U.heap ∧ va_D (fun _ => True) [(rd, .inr (2, [.ref rn, .ref rc, va_rf rm_, .int (zI ((ct : Nat) : Int))])), (rc, .inr (3, [.ref rcw])), (rcw, .inl (c 2, 4 * 1001, .inr (.inl rv))), (mo, .inr (1, [.ref me, .ref ms, .int (zB dt)])), (me, .inl (c 0, ne, .inl (fun j => zI ((en j : Nat) : Int)))), (ms, .inr (3, [.ref msw])), (msw, .inl (c 2, 4 * (ne + 1), .inr (.inl mf)))]) ∧ zK D c U)) (va_Qv (fun (u : Unit) => True) (fun (u : Unit) t9 => va_P D vwCl [(rd, .inr (2, [.ref rn, .ref rc, .ref mo, .int (zI 0)])), (rc, .inr (3, [.ref rcw])), (rcw, .inl (c 2, 4 * 1001, .inr (.inl (zor (zclr rv 0) 0 mf ne)))), (mo, .inr (1, [.ref me, .ref ms, .int (zB dt)])), (me, .inl (c 0, ne, .inl (fun j => zI ((en j : Nat) : Int)))), (ms, .inr (3, [.ref msw])), (msw, .inl (c 2, 4 * (ne + 1), .inr (.inl mf)))] t9.heap) (zA [(rd, .inr (2, [.ref rn, .ref rc, va_rf rm_, .int (zI ((ct : Nat) : Int))])), (rc, .inr (3, [.ref rcw])), (rcw, .inl (c 2, 4 * 1001, .inr (.inl rv))), (mo, .inr (1, [.ref me, .ref ms, .int (zB dt)])), (me, .inl (c 0, ne, .inl (fun j => zI ((en j : Nat) : Int)))), (ms, .inr (3, [.ref msw])), (msw, .inl (c 2, 4 * (ne + 1), .inr (.inl mf)))])) 0 0 (zA [(rd, .inr (2, [.ref rn, .ref rc, va_rf rm_, .int (zI ((ct : Nat) : Int))])), (rc, .inr (3, [.ref rcw])), (rcw, .inl (c 2, 4 * 1001, .inr (.inl rv))), (mo, .inr (1, [.ref me, .ref ms, .int (zB dt)])), (me, .inl (c 0, ne, .inl (fun j => zI ((en j : Nat) : Int)))), (ms, .inr (3, [.ref msw])), (msw, .inl (c 2, 4 * (ne + 1), .inr (.inl mf)))]) := by
  refine Met.ofW (cc := b_Re_startWith) (maxL := 2) (ret := none) (by decide) rfl ?_
  intro p e s m args below meth c0 s₁ B hml hv
  obtain ⟨rfl, ⟨hP, hD0⟩, hKN⟩ := hv
  have hK := hKN.1
  have hN := hKN.2
  have hx := B.exec
  have hb := B.bytes
  have hr := B.returns
  have hts := atoms_spec (ws := w_Re_startWith) B.pre
  have hw : ∀ {w : Cond}, w ∈ ALLW → w.before _ s = true := fun h => hts _ (List.mem_cons_of_mem _ h)
  have hown : s.vm.findClass R_Re = some m.cls := findClass_of_methodNamed B.named
  have hlocks := B.notSynchronized
  have hD : va_D (zA [(rd, .inr (2, [.ref rn, .ref rc, va_rf rm_, .int (zI ((ct : Nat) : Int))])), (rc, .inr (3, [.ref rcw])), (rcw, .inl (c 2, 4 * 1001, .inr (.inl rv))), (mo, .inr (1, [.ref me, .ref ms, .int (zB dt)])), (me, .inl (c 0, ne, .inl (fun j => zI ((en j : Nat) : Int)))), (ms, .inr (3, [.ref msw])), (msw, .inl (c 2, 4 * (ne + 1), .inr (.inl mf)))]) [(rd, .inr (2, [.ref rn, .ref rc, va_rf rm_, .int (zI ((ct : Nat) : Int))])), (rc, .inr (3, [.ref rcw])), (rcw, .inl (c 2, 4 * 1001, .inr (.inl rv))), (mo, .inr (1, [.ref me, .ref ms, .int (zB dt)])), (me, .inl (c 0, ne, .inl (fun j => zI ((en j : Nat) : Int)))), (ms, .inr (3, [.ref msw])), (msw, .inl (c 2, 4 * (ne + 1), .inr (.inl mf)))] := ⟨hD0.1, fun k q h => List.mem_map.mpr ⟨q, List.mem_of_getElem? h, rfl⟩⟩
  generalize hAe : zA [(rd, .inr (2, [.ref rn, .ref rc, va_rf rm_, .int (zI ((ct : Nat) : Int))])), (rc, .inr (3, [.ref rcw])), (rcw, .inl (c 2, 4 * 1001, .inr (.inl rv))), (mo, .inr (1, [.ref me, .ref ms, .int (zB dt)])), (me, .inl (c 0, ne, .inl (fun j => zI ((en j : Nat) : Int)))), (ms, .inr (3, [.ref msw])), (msw, .inl (c 2, 4 * (ne + 1), .inr (.inl mf)))] = A at hD ⊢
  have hS : va_S A s.heap s.heap [] := va_S.rf
  have hP : va_P D vwCl [(rd, .inr (2, [.ref rn, .ref rc, va_rf rm_, .int (zI ((ct : Nat) : Int))])), (rc, .inr (3, [.ref rcw])), (rcw, .inl (c 2, 4 * 1001, .inr (.inl rv))), (mo, .inr (1, [.ref me, .ref ms, .int (zB dt)])), (me, .inl (c 0, ne, .inl (fun j => zI ((en j : Nat) : Int)))), (ms, .inr (3, [.ref msw])), (msw, .inl (c 2, 4 * (ne + 1), .inr (.inl mf)))] s.heap := hP
  have hl := lv_entry ([.ref rd, .ref mo]) (n := 2) (Nat.le_of_ble_eq_true rfl)
  rw [lg_entry_eq]
  generalize (lg_sl ([.ref rd, .ref mo]) ++ List.replicate (2 - (lg_sl ([.ref rd, .ref mo])).length) Slot.unset).toArray = ls at hl ⊢
  have hl : lv_has ls 2 [(0, .ref rd), (1, .ref mo)] := hl
  generalize hQ : MQ below _ _ _ _ _ _ = Q
  refine lv_aload_n hx hb d_Re_startWith_0 rfl (lv_at hl 0 rfl) ?_
  refine lv_aload_n hx hb d_Re_startWith_1 rfl (lv_at hl 1 rfl) ?_
  refine va_put (D := D) (ci := 2) (v := .ref mo) (ty := .object "RowModels$Model") (C := R_Re) (T := T_Re) (N := 4) hx hb hts (fun w h => List.mem_cons_of_mem _ (inA_Re w h)) ty_Re tyok_Re nm_Re hown hK hP hD hS 0 rfl rfl 2 (by decide) (hw k_Re_f24) (fun _ h9 => h9) rfl (by decide +kernel) rfl rfl (Nat.le_of_ble_eq_true rfl) d_Re_startWith_2 (fun H locs hP hD hS => ?_)
  have hP : va_P D vwCl [(rd, .inr (2, [.ref rn, .ref rc, .ref mo, .int (zI ((ct : Nat) : Int))])), (rc, .inr (3, [.ref rcw])), (rcw, .inl (c 2, 4 * 1001, .inr (.inl rv))), (mo, .inr (1, [.ref me, .ref ms, .int (zB dt)])), (me, .inl (c 0, ne, .inl (fun j => zI ((en j : Nat) : Int)))), (ms, .inr (3, [.ref msw])), (msw, .inl (c 2, 4 * (ne + 1), .inr (.inl mf)))] H := hP
  have hD : va_D A [(rd, .inr (2, [.ref rn, .ref rc, .ref mo, .int (zI ((ct : Nat) : Int))])), (rc, .inr (3, [.ref rcw])), (rcw, .inl (c 2, 4 * 1001, .inr (.inl rv))), (mo, .inr (1, [.ref me, .ref ms, .int (zB dt)])), (me, .inl (c 0, ne, .inl (fun j => zI ((en j : Nat) : Int)))), (ms, .inr (3, [.ref msw])), (msw, .inl (c 2, 4 * (ne + 1), .inr (.inl mf)))] := hD
  refine lv_aload_n hx hb d_Re_startWith_5 rfl (lv_at hl 0 rfl) ?_
  refine lv_iconst (v := zI 0) hx hb d_Re_startWith_6 (by decide) ?_
  refine va_put (D := D) (ci := 2) (v := .int (zI 0)) (ty := .int) (C := R_Re) (T := T_Re) (N := 4) hx hb hts (fun w h => List.mem_cons_of_mem _ (inA_Re w h)) ty_Re tyok_Re nm_Re hown hK hP hD hS 0 rfl rfl 3 (by decide) (hw k_Re_f28) (fun _ h9 => h9) rfl (by decide +kernel) rfl rfl (Nat.le_of_ble_eq_true rfl) d_Re_startWith_7 (fun H locs hP hD hS => ?_)
  have hP : va_P D vwCl [(rd, .inr (2, [.ref rn, .ref rc, .ref mo, .int (zI 0)])), (rc, .inr (3, [.ref rcw])), (rcw, .inl (c 2, 4 * 1001, .inr (.inl rv))), (mo, .inr (1, [.ref me, .ref ms, .int (zB dt)])), (me, .inl (c 0, ne, .inl (fun j => zI ((en j : Nat) : Int)))), (ms, .inr (3, [.ref msw])), (msw, .inl (c 2, 4 * (ne + 1), .inr (.inl mf)))] H := hP
  have hD : va_D A [(rd, .inr (2, [.ref rn, .ref rc, .ref mo, .int (zI 0)])), (rc, .inr (3, [.ref rcw])), (rcw, .inl (c 2, 4 * 1001, .inr (.inl rv))), (mo, .inr (1, [.ref me, .ref ms, .int (zB dt)])), (me, .inl (c 0, ne, .inl (fun j => zI ((en j : Nat) : Int)))), (ms, .inr (3, [.ref msw])), (msw, .inl (c 2, 4 * (ne + 1), .inr (.inl mf)))] := hD
  refine lv_aload_n hx hb d_Re_startWith_10 rfl (lv_at hl 1 rfl) ?_
  refine lv_aload_n hx hb d_Re_startWith_11 rfl (lv_at hl 0 rfl) ?_
  refine va_get (D := D) (ci := 2) (v := .ref rc) (C := R_Re) (T := T_Re) (N := 4) hx hb hts (fun w h => List.mem_cons_of_mem _ (inA_Re w h)) hown hK hP 0 rfl rfl 1 (by decide) (hw k_Re_f20) (fun _ h9 => h9) rfl d_Re_startWith_12 ?_
  refine lv_iconst (v := zI 0) hx hb d_Re_startWith_15 (by decide) ?_
  have hPc : va_P D vwCl [(mo, .inr (1, [.ref me, .ref ms, .int (zB dt)])), (me, .inl (c 0, ne, .inl (fun j => zI ((en j : Nat) : Int)))), (ms, .inr (3, [.ref msw])), (msw, .inl (c 2, 4 * (ne + 1), .inr (.inl mf))), (rc, .inr (3, [.ref rcw])), (rcw, .inl (c 2, 4 * 1001, .inr (.inl rv)))] H := hP.sub (ws' := [(mo, .inr (1, [.ref me, .ref ms, .int (zB dt)])), (me, .inl (c 0, ne, .inl (fun j => zI ((en j : Nat) : Int)))), (ms, .inr (3, [.ref msw])), (msw, .inl (c 2, 4 * (ne + 1), .inr (.inl mf))), (rc, .inr (3, [.ref rcw])), (rcw, .inl (c 2, 4 * 1001, .inr (.inl rv)))]) [3, 4, 5, 6, 1, 2] rfl
  have hDc : va_D A [(mo, .inr (1, [.ref me, .ref ms, .int (zB dt)])), (me, .inl (c 0, ne, .inl (fun j => zI ((en j : Nat) : Int)))), (ms, .inr (3, [.ref msw])), (msw, .inl (c 2, 4 * (ne + 1), .inr (.inl mf))), (rc, .inr (3, [.ref rcw])), (rcw, .inl (c 2, 4 * 1001, .inr (.inl rv)))] := hD.sub (ws' := [(mo, .inr (1, [.ref me, .ref ms, .int (zB dt)])), (me, .inl (c 0, ne, .inl (fun j => zI ((en j : Nat) : Int)))), (ms, .inr (3, [.ref msw])), (msw, .inl (c 2, 4 * (ne + 1), .inr (.inl mf))), (rc, .inr (3, [.ref rcw])), (rcw, .inl (c 2, 4 * 1001, .inr (.inl rv)))]) [3, 4, 5, 6, 1, 2] (by decide) rfl
  have hDt : va_D (fun _ => True) [(mo, .inr (1, [.ref me, .ref ms, .int (zB dt)])), (me, .inl (c 0, ne, .inl (fun j => zI ((en j : Nat) : Int)))), (ms, .inr (3, [.ref msw])), (msw, .inl (c 2, 4 * (ne + 1), .inr (.inl mf))), (rc, .inr (3, [.ref rcw])), (rcw, .inl (c 2, 4 * 1001, .inr (.inl rv)))] := hDc.weaken (fun _ _ _ _ => trivial)
  refine z_callv (S := Unit) (w1 := fun u => [(mo, .inr (1, [.ref me, .ref ms, .int (zB dt)])), (me, .inl (c 0, ne, .inl (fun j => zI ((en j : Nat) : Int)))), (ms, .inr (3, [.ref msw])), (msw, .inl (c 2, 4 * (ne + 1), .inr (.inl mf))), (rc, .inr (3, [.ref rcw])), (rcw, .inl (c 2, 4 * 1001, .inr (.inl (zor (zclr rv 0) 0 mf ne))))]) (post := fun u => True) (wc := [(mo, .inr (1, [.ref me, .ref ms, .int (zB dt)])), (me, .inl (c 0, ne, .inl (fun j => zI ((en j : Nat) : Int)))), (ms, .inr (3, [.ref msw])), (msw, .inl (c 2, 4 * (ne + 1), .inr (.inl mf))), (rc, .inr (3, [.ref rcw])), (rcw, .inl (c 2, 4 * 1001, .inr (.inl rv)))]) [3, 4, 5, 6, 1, 2] rfl (fun _ => rfl) hP hD hS (va_runV (rm := rm_putFirst) (As := [.ref rc, .int (zI 0)]) (rest := []) ⟨hx, hb, hml, hown, hts⟩ (c_putFirst l D c rc rcw rv mo me ms msw en ne mf dt 0 (by omega) hen (by omega)) (cwV 2 hts (gWV k_Re_m32 k_i_Mo_putFirst k_v_Mo_putFirst k_n_Mo k_c_Mo_putFirst) rfl rfl rfl (by decide +kernel) ⟨Nat.le_of_ble_eq_true rfl, Nat.le_of_ble_eq_true rfl⟩) ⟨zblindW, va_recv hK hPc (ci := 1) (q0 := 0) rfl rfl, fun U hU hW => ⟨rfl, ⟨by rw [hU]; exact hPc, hDt⟩, hKN.moved hW⟩⟩ rfl rfl hl.1 rfl (lv_room (Nat.le_of_ble_eq_true rfl)) d_Re_startWith_16 ⟨Nat.zero_le _, Nat.zero_le _⟩) (fun u H locs hp_1 hP hD hS => ?_)
  have hP : va_P D vwCl [(rd, .inr (2, [.ref rn, .ref rc, .ref mo, .int (zI 0)])), (rc, .inr (3, [.ref rcw])), (rcw, .inl (c 2, 4 * 1001, .inr (.inl (zor (zclr rv 0) 0 mf ne)))), (mo, .inr (1, [.ref me, .ref ms, .int (zB dt)])), (me, .inl (c 0, ne, .inl (fun j => zI ((en j : Nat) : Int)))), (ms, .inr (3, [.ref msw])), (msw, .inl (c 2, 4 * (ne + 1), .inr (.inl mf)))] H := hP
  have hD : va_D A [(rd, .inr (2, [.ref rn, .ref rc, .ref mo, .int (zI 0)])), (rc, .inr (3, [.ref rcw])), (rcw, .inl (c 2, 4 * 1001, .inr (.inl (zor (zclr rv 0) 0 mf ne)))), (mo, .inr (1, [.ref me, .ref ms, .int (zB dt)])), (me, .inl (c 0, ne, .inl (fun j => zI ((en j : Nat) : Int)))), (ms, .inr (3, [.ref msw])), (msw, .inl (c 2, 4 * (ne + 1), .inr (.inl mf)))] := hD
  subst hQ
  exact W.vret hx hb hr (fun t9 ht hW => ⟨⟨(), rfl, trivial, by show va_P _ _ _ t9.heap; rw [ht]; exact hP⟩, hS.F ht⟩) hS.2.2 d_Re_startWith_19

def rm_take_null : Room := { frames := 0, cells := 0, slots := 0, locals := 0 }
set_option maxHeartbeats 4000000 in
set_option maxRecDepth 100000 in
/-- Reading.take, nothing begun -/
theorem c_take_null (l : Launch) (D : va_G) (c : Nat → ClassId) (rd : Nat) (rn : Nat) (rc : Nat) (rcw : Nat) (nr : Nat → Nat) (rv : Nat → Int64) (ct : Nat) (x : Nat)  : Met l y_Re_take w_Re_take rm_take_null (va_Pc [.ref rd, .int (zI ((x : Nat) : Int))] (fun U => va_P D vwCl [(rd, .inr (2, [.ref rn, .ref rc, .null, .int (zI ((ct : Nat) : Int))]))] U.heap ∧ zK D c U)) (vp_Si (fun r => r = (zB false))) 0 0 (fun _ => False) := by
  refine Met.ofW (cc := b_Re_take) (maxL := 2) (ret := (some .boolean)) (by decide) rfl ?_
  intro p e s m args below meth c0 s₁ B hml hv
  obtain ⟨rfl, hP, hKN⟩ := hv
  have hK := hKN.1
  have hN := hKN.2
  have hx := B.exec
  have hb := B.bytes
  have hr := B.returns
  have hts := atoms_spec (ws := w_Re_take) B.pre
  have hw : ∀ {w : Cond}, w ∈ ALLW → w.before _ s = true := fun h => hts _ (List.mem_cons_of_mem _ h)
  have hown : s.vm.findClass R_Re = some m.cls := findClass_of_methodNamed B.named
  have hlocks := B.notSynchronized
  have hl := lv_entry ([.ref rd, .int (zI ((x : Nat) : Int))]) (n := 2) (Nat.le_of_ble_eq_true rfl)
  rw [lg_entry_eq]
  generalize (lg_sl ([.ref rd, .int (zI ((x : Nat) : Int))]) ++ List.replicate (2 - (lg_sl ([.ref rd, .int (zI ((x : Nat) : Int))])).length) Slot.unset).toArray = ls at hl ⊢
  have hl : lv_has ls 2 [(0, .ref rd), (1, .int (zI ((x : Nat) : Int)))] := hl
  generalize hQ : MQ below _ _ _ _ _ _ = Q
  refine lv_aload_n hx hb d_Re_take_0 rfl (lv_at hl 0 rfl) ?_
  refine va_get (D := D) (ci := 2) (v := .null) (C := R_Re) (T := T_Re) (N := 4) hx hb hts (fun w h => List.mem_cons_of_mem _ (inA_Re w h)) hown hK hP 0 rfl rfl 2 (by decide) (hw k_Re_f24) (fun _ h9 => h9) rfl d_Re_take_1 ?_
  refine lv_ifnullN (tgt := 26) hx hb d_Re_take_4 (by decide) ?_
  refine lv_iconst (v := zI 0) hx hb d_Re_take_26 (by decide) ?_
  subst hQ
  exact W.zret (ty := .boolean) (v := (zI 0)) hx hb hr (by decide) (fun t9 ht hW => ⟨_, rfl, (by decide), ht⟩) (fun q hq => absurd hq List.not_mem_nil) d_Re_take_27

def rm_take_full : Room := { frames := 0, cells := 0, slots := 0, locals := 0 }
set_option maxHeartbeats 4000000 in
set_option maxRecDepth 100000 in
/-- Reading.take, 1000 were read -/
theorem c_take_full (l : Launch) (D : va_G) (c : Nat → ClassId) (rd : Nat) (rn : Nat) (rc : Nat) (rcw : Nat) (nr : Nat → Nat) (rv : Nat → Int64) (mo : Nat) (x : Nat)  : Met l y_Re_take w_Re_take rm_take_full (va_Pc [.ref rd, .int (zI ((x : Nat) : Int))] (fun U => va_P D vwCl [(rd, .inr (2, [.ref rn, .ref rc, .ref mo, .int (zI ((1000 : Nat) : Int))])), (rn, .inl (c 0, 1000, .inl (fun j => zI ((nr j : Nat) : Int))))] U.heap ∧ zK D c U)) (vp_Si (fun r => r = (zB false))) 0 0 (fun _ => False) := by
  refine Met.ofW (cc := b_Re_take) (maxL := 2) (ret := (some .boolean)) (by decide) rfl ?_
  intro p e s m args below meth c0 s₁ B hml hv
  obtain ⟨rfl, hP, hKN⟩ := hv
  have hK := hKN.1
  have hN := hKN.2
  have hx := B.exec
  have hb := B.bytes
  have hr := B.returns
  have hts := atoms_spec (ws := w_Re_take) B.pre
  have hw : ∀ {w : Cond}, w ∈ ALLW → w.before _ s = true := fun h => hts _ (List.mem_cons_of_mem _ h)
  have hown : s.vm.findClass R_Re = some m.cls := findClass_of_methodNamed B.named
  have hlocks := B.notSynchronized
  have hl := lv_entry ([.ref rd, .int (zI ((x : Nat) : Int))]) (n := 2) (Nat.le_of_ble_eq_true rfl)
  rw [lg_entry_eq]
  generalize (lg_sl ([.ref rd, .int (zI ((x : Nat) : Int))]) ++ List.replicate (2 - (lg_sl ([.ref rd, .int (zI ((x : Nat) : Int))])).length) Slot.unset).toArray = ls at hl ⊢
  have hl : lv_has ls 2 [(0, .ref rd), (1, .int (zI ((x : Nat) : Int)))] := hl
  generalize hQ : MQ below _ _ _ _ _ _ = Q
  refine lv_aload_n hx hb d_Re_take_0 rfl (lv_at hl 0 rfl) ?_
  refine va_get (D := D) (ci := 2) (v := .ref mo) (C := R_Re) (T := T_Re) (N := 4) hx hb hts (fun w h => List.mem_cons_of_mem _ (inA_Re w h)) hown hK hP 0 rfl rfl 2 (by decide) (hw k_Re_f24) (fun _ h9 => h9) rfl d_Re_take_1 ?_
  refine lv_ifnull hx hb d_Re_take_4 ?_
  refine lv_aload_n hx hb d_Re_take_7 rfl (lv_at hl 0 rfl) ?_
  refine va_get (D := D) (ci := 2) (v := .int (zI ((1000 : Nat) : Int))) (C := R_Re) (T := T_Re) (N := 4) hx hb hts (fun w h => List.mem_cons_of_mem _ (inA_Re w h)) hown hK hP 0 rfl rfl 3 (by decide) (hw k_Re_f28) (fun _ h9 => h9) rfl d_Re_take_8 ?_
  refine z_if_lt (tgt := 26) hx hb (by omega) d_Re_take_11 (by decide) (fun hc_11 => absurd hc_11 (by omega)) (fun hc_11 => ?_)
  refine lv_aload_n hx hb d_Re_take_14 rfl (lv_at hl 0 rfl) ?_
  refine va_get (D := D) (ci := 2) (v := .int (zI ((1000 : Nat) : Int))) (C := R_Re) (T := T_Re) (N := 4) hx hb hts (fun w h => List.mem_cons_of_mem _ (inA_Re w h)) hown hK hP 0 rfl rfl 3 (by decide) (hw k_Re_f28) (fun _ h9 => h9) rfl d_Re_take_15 ?_
  refine lv_aload_n hx hb d_Re_take_18 rfl (lv_at hl 0 rfl) ?_
  refine va_get (D := D) (ci := 2) (v := .ref rn) (C := R_Re) (T := T_Re) (N := 4) hx hb hts (fun w h => List.mem_cons_of_mem _ (inA_Re w h)) hown hK hP 0 rfl rfl 0 (by decide) (hw k_Re_f9) (fun _ h9 => h9) rfl d_Re_take_19 ?_
  refine z_alen hx hb hK hP 1 0 rfl rfl d_Re_take_22 ?_
  refine z_top (v2 := .int (zI (1000 : Int))) rfl ?_
  refine z_icmp_lt (tgt := 28) hx hb (by omega) d_Re_take_23 (by decide) (fun hc_23 => absurd hc_23 (by omega)) (fun hc_23 => ?_)
  refine lv_iconst (v := zI 0) hx hb d_Re_take_26 (by decide) ?_
  subst hQ
  exact W.zret (ty := .boolean) (v := (zI 0)) hx hb hr (by decide) (fun t9 ht hW => ⟨_, rfl, (by decide), ht⟩) (fun q hq => absurd hq List.not_mem_nil) d_Re_take_27

def rm_take : Room := { frames := 4, cells := 0, slots := 0, locals := 90 }
set_option maxHeartbeats 4000000 in
set_option maxRecDepth 100000 in
/-- Reading.take -/
theorem c_take (l : Launch) (D : va_G) (c : Nat → ClassId) (rd : Nat) (rn : Nat) (rc : Nat) (rcw : Nat) (nr : Nat → Nat) (rv : Nat → Int64) (ct : Nat) (mo : Nat) (me : Nat) (ms : Nat) (msw : Nat) (en : Nat → Nat) (ne : Nat) (mf : Nat → Int64) (dt : Bool) (x : Nat) (hne : ne ≤ 255) (hen : ∀ j, j < ne → en j < 300000) (hoc : ∀ j, j < ne → en j % 256 < ne + 1) (hct : ct < 1000) (hx_ : x < 2048) : Met l y_Re_take w_Re_take rm_take (va_Pc [.ref rd, .int (zI ((x : Nat) : Int))] (fun U => (va_P D vwCl [(rd, .inr (2, [.ref rn, .ref rc, .ref mo, .int (zI ((ct : Nat) : Int))])), (rn, .inl (c 0, 1000, .inl (fun j => zI ((nr j : Nat) : Int)))), (rc, .inr (3, [.ref rcw])), (rcw, .inl (c 2, 4 * 1001, .inr (.inl rv))), (mo, .inr (1, [.ref me, .ref ms, .int (zB dt)])), (me, .inl (c 0, ne, .inl (fun j => zI ((en j : Nat) : Int)))), (ms, .inr (3, [.ref msw])), (msw, .inl (c 2, 4 * (ne + 1), .inr (.inl mf)))] U.heap ∧ va_D (fun _ => True) [(rd, .inr (2, [.ref rn, .ref rc, .ref mo, .int (zI ((ct : Nat) : Int))])), (rn, .inl (c 0, 1000, .inl (fun j => zI ((nr j : Nat) : Int)))), (rc, .inr (3, [.ref rcw])), (rcw, .inl (c 2, 4 * 1001, .inr (.inl rv))), (mo, .inr (1, [.ref me, .ref ms, .int (zB dt)])), (me, .inl (c 0, ne, .inl (fun j => zI ((en j : Nat) : Int)))), (ms, .inr (3, [.ref msw])), (msw, .inl (c 2, 4 * (ne + 1), .inr (.inl mf)))]) ∧ zK D c U)) (va_Qi (fun (r : Int32) (u : Unit) => r = (zB true) ∧ True) (fun (u : Unit) t9 => va_P D vwCl [(rd, .inr (2, [.ref rn, .ref rc, .ref mo, .int (zI ((ct + 1 : Nat) : Int))])), (rn, .inl (c 0, 1000, .inl (fun j => zI (((va_up nr ct x) j : Nat) : Int)))), (rc, .inr (3, [.ref rcw])), (rcw, .inl (c 2, 4 * 1001, .inr (.inl (pbk rv en mf ct x ne)))), (mo, .inr (1, [.ref me, .ref ms, .int (zB dt)])), (me, .inl (c 0, ne, .inl (fun j => zI ((en j : Nat) : Int)))), (ms, .inr (3, [.ref msw])), (msw, .inl (c 2, 4 * (ne + 1), .inr (.inl mf)))] t9.heap) (zA [(rd, .inr (2, [.ref rn, .ref rc, .ref mo, .int (zI ((ct : Nat) : Int))])), (rn, .inl (c 0, 1000, .inl (fun j => zI ((nr j : Nat) : Int)))), (rc, .inr (3, [.ref rcw])), (rcw, .inl (c 2, 4 * 1001, .inr (.inl rv))), (mo, .inr (1, [.ref me, .ref ms, .int (zB dt)])), (me, .inl (c 0, ne, .inl (fun j => zI ((en j : Nat) : Int)))), (ms, .inr (3, [.ref msw])), (msw, .inl (c 2, 4 * (ne + 1), .inr (.inl mf)))])) 0 0 (zA [(rd, .inr (2, [.ref rn, .ref rc, .ref mo, .int (zI ((ct : Nat) : Int))])), (rn, .inl (c 0, 1000, .inl (fun j => zI ((nr j : Nat) : Int)))), (rc, .inr (3, [.ref rcw])), (rcw, .inl (c 2, 4 * 1001, .inr (.inl rv))), (mo, .inr (1, [.ref me, .ref ms, .int (zB dt)])), (me, .inl (c 0, ne, .inl (fun j => zI ((en j : Nat) : Int)))), (ms, .inr (3, [.ref msw])), (msw, .inl (c 2, 4 * (ne + 1), .inr (.inl mf)))]) := by
  refine Met.ofW (cc := b_Re_take) (maxL := 2) (ret := (some .boolean)) (by decide) rfl ?_
  intro p e s m args below meth c0 s₁ B hml hv
  obtain ⟨rfl, ⟨hP, hD0⟩, hKN⟩ := hv
  have hK := hKN.1
  have hN := hKN.2
  have hx := B.exec
  have hb := B.bytes
  have hr := B.returns
  have hts := atoms_spec (ws := w_Re_take) B.pre
  have hw : ∀ {w : Cond}, w ∈ ALLW → w.before _ s = true := fun h => hts _ (List.mem_cons_of_mem _ h)
  have hown : s.vm.findClass R_Re = some m.cls := findClass_of_methodNamed B.named
  have hlocks := B.notSynchronized
  have hD : va_D (zA [(rd, .inr (2, [.ref rn, .ref rc, .ref mo, .int (zI ((ct : Nat) : Int))])), (rn, .inl (c 0, 1000, .inl (fun j => zI ((nr j : Nat) : Int)))), (rc, .inr (3, [.ref rcw])), (rcw, .inl (c 2, 4 * 1001, .inr (.inl rv))), (mo, .inr (1, [.ref me, .ref ms, .int (zB dt)])), (me, .inl (c 0, ne, .inl (fun j => zI ((en j : Nat) : Int)))), (ms, .inr (3, [.ref msw])), (msw, .inl (c 2, 4 * (ne + 1), .inr (.inl mf)))]) [(rd, .inr (2, [.ref rn, .ref rc, .ref mo, .int (zI ((ct : Nat) : Int))])), (rn, .inl (c 0, 1000, .inl (fun j => zI ((nr j : Nat) : Int)))), (rc, .inr (3, [.ref rcw])), (rcw, .inl (c 2, 4 * 1001, .inr (.inl rv))), (mo, .inr (1, [.ref me, .ref ms, .int (zB dt)])), (me, .inl (c 0, ne, .inl (fun j => zI ((en j : Nat) : Int)))), (ms, .inr (3, [.ref msw])), (msw, .inl (c 2, 4 * (ne + 1), .inr (.inl mf)))] := ⟨hD0.1, fun k q h => List.mem_map.mpr ⟨q, List.mem_of_getElem? h, rfl⟩⟩
  generalize hAe : zA [(rd, .inr (2, [.ref rn, .ref rc, .ref mo, .int (zI ((ct : Nat) : Int))])), (rn, .inl (c 0, 1000, .inl (fun j => zI ((nr j : Nat) : Int)))), (rc, .inr (3, [.ref rcw])), (rcw, .inl (c 2, 4 * 1001, .inr (.inl rv))), (mo, .inr (1, [.ref me, .ref ms, .int (zB dt)])), (me, .inl (c 0, ne, .inl (fun j => zI ((en j : Nat) : Int)))), (ms, .inr (3, [.ref msw])), (msw, .inl (c 2, 4 * (ne + 1), .inr (.inl mf)))] = A at hD ⊢
  have hS : va_S A s.heap s.heap [] := va_S.rf
  have hP : va_P D vwCl [(rd, .inr (2, [.ref rn, .ref rc, .ref mo, .int (zI ((ct : Nat) : Int))])), (rn, .inl (c 0, 1000, .inl (fun j => zI ((nr j : Nat) : Int)))), (rc, .inr (3, [.ref rcw])), (rcw, .inl (c 2, 4 * 1001, .inr (.inl rv))), (mo, .inr (1, [.ref me, .ref ms, .int (zB dt)])), (me, .inl (c 0, ne, .inl (fun j => zI ((en j : Nat) : Int)))), (ms, .inr (3, [.ref msw])), (msw, .inl (c 2, 4 * (ne + 1), .inr (.inl mf)))] s.heap := hP
  have hl := lv_entry ([.ref rd, .int (zI ((x : Nat) : Int))]) (n := 2) (Nat.le_of_ble_eq_true rfl)
  rw [lg_entry_eq]
  generalize (lg_sl ([.ref rd, .int (zI ((x : Nat) : Int))]) ++ List.replicate (2 - (lg_sl ([.ref rd, .int (zI ((x : Nat) : Int))])).length) Slot.unset).toArray = ls at hl ⊢
  have hl : lv_has ls 2 [(0, .ref rd), (1, .int (zI ((x : Nat) : Int)))] := hl
  generalize hQ : MQ below _ _ _ _ _ _ = Q
  refine lv_aload_n hx hb d_Re_take_0 rfl (lv_at hl 0 rfl) ?_
  refine va_get (D := D) (ci := 2) (v := .ref mo) (C := R_Re) (T := T_Re) (N := 4) hx hb hts (fun w h => List.mem_cons_of_mem _ (inA_Re w h)) hown hK hP 0 rfl rfl 2 (by decide) (hw k_Re_f24) (fun _ h9 => h9) rfl d_Re_take_1 ?_
  refine lv_ifnull hx hb d_Re_take_4 ?_
  refine lv_aload_n hx hb d_Re_take_7 rfl (lv_at hl 0 rfl) ?_
  refine va_get (D := D) (ci := 2) (v := .int (zI ((ct : Nat) : Int))) (C := R_Re) (T := T_Re) (N := 4) hx hb hts (fun w h => List.mem_cons_of_mem _ (inA_Re w h)) hown hK hP 0 rfl rfl 3 (by decide) (hw k_Re_f28) (fun _ h9 => h9) rfl d_Re_take_8 ?_
  refine z_if_lt (tgt := 26) hx hb (by omega) d_Re_take_11 (by decide) (fun hc_11 => absurd hc_11 (by omega)) (fun hc_11 => ?_)
  refine lv_aload_n hx hb d_Re_take_14 rfl (lv_at hl 0 rfl) ?_
  refine va_get (D := D) (ci := 2) (v := .int (zI ((ct : Nat) : Int))) (C := R_Re) (T := T_Re) (N := 4) hx hb hts (fun w h => List.mem_cons_of_mem _ (inA_Re w h)) hown hK hP 0 rfl rfl 3 (by decide) (hw k_Re_f28) (fun _ h9 => h9) rfl d_Re_take_15 ?_
  refine lv_aload_n hx hb d_Re_take_18 rfl (lv_at hl 0 rfl) ?_
  refine va_get (D := D) (ci := 2) (v := .ref rn) (C := R_Re) (T := T_Re) (N := 4) hx hb hts (fun w h => List.mem_cons_of_mem _ (inA_Re w h)) hown hK hP 0 rfl rfl 0 (by decide) (hw k_Re_f9) (fun _ h9 => h9) rfl d_Re_take_19 ?_
  refine z_alen hx hb hK hP 1 0 rfl rfl d_Re_take_22 ?_
  refine z_top (v2 := .int (zI (1000 : Int))) rfl ?_
  refine z_icmp_lt (tgt := 28) hx hb (by omega) d_Re_take_23 (by decide) (fun hc_23 => ?_) (fun hc_23 => absurd hc_23 (by omega))
  refine lv_aload_n hx hb d_Re_take_28 rfl (lv_at hl 0 rfl) ?_
  refine va_get (D := D) (ci := 2) (v := .ref rn) (C := R_Re) (T := T_Re) (N := 4) hx hb hts (fun w h => List.mem_cons_of_mem _ (inA_Re w h)) hown hK hP 0 rfl rfl 0 (by decide) (hw k_Re_f9) (fun _ h9 => h9) rfl d_Re_take_29 ?_
  refine lv_aload_n hx hb d_Re_take_32 rfl (lv_at hl 0 rfl) ?_
  refine va_get (D := D) (ci := 2) (v := .int (zI ((ct : Nat) : Int))) (C := R_Re) (T := T_Re) (N := 4) hx hb hts (fun w h => List.mem_cons_of_mem _ (inA_Re w h)) hown hK hP 0 rfl rfl 3 (by decide) (hw k_Re_f28) (fun _ h9 => h9) rfl d_Re_take_33 ?_
  refine lv_iload_n hx hb d_Re_take_36 rfl (lv_at hl 1 rfl) ?_
  refine z_uast hx hb hK hP hD hS 1 0 rfl rfl (ct) (by omega) (by omega) (by omega) d_Re_take_37 (fun H locs hP hD hS => ?_)
  have hP : va_P D vwCl [(rd, .inr (2, [.ref rn, .ref rc, .ref mo, .int (zI ((ct : Nat) : Int))])), (rn, .inl (c 0, 1000, .inl (fun j => zI (((va_up nr ct x) j : Nat) : Int)))), (rc, .inr (3, [.ref rcw])), (rcw, .inl (c 2, 4 * 1001, .inr (.inl rv))), (mo, .inr (1, [.ref me, .ref ms, .int (zB dt)])), (me, .inl (c 0, ne, .inl (fun j => zI ((en j : Nat) : Int)))), (ms, .inr (3, [.ref msw])), (msw, .inl (c 2, 4 * (ne + 1), .inr (.inl mf)))] H := hP
  have hD : va_D A [(rd, .inr (2, [.ref rn, .ref rc, .ref mo, .int (zI ((ct : Nat) : Int))])), (rn, .inl (c 0, 1000, .inl (fun j => zI (((va_up nr ct x) j : Nat) : Int)))), (rc, .inr (3, [.ref rcw])), (rcw, .inl (c 2, 4 * 1001, .inr (.inl rv))), (mo, .inr (1, [.ref me, .ref ms, .int (zB dt)])), (me, .inl (c 0, ne, .inl (fun j => zI ((en j : Nat) : Int)))), (ms, .inr (3, [.ref msw])), (msw, .inl (c 2, 4 * (ne + 1), .inr (.inl mf)))] := hD
  refine lv_aload_n hx hb d_Re_take_38 rfl (lv_at hl 0 rfl) ?_
  refine va_get (D := D) (ci := 2) (v := .ref mo) (C := R_Re) (T := T_Re) (N := 4) hx hb hts (fun w h => List.mem_cons_of_mem _ (inA_Re w h)) hown hK hP 0 rfl rfl 2 (by decide) (hw k_Re_f24) (fun _ h9 => h9) rfl d_Re_take_39 ?_
  refine lv_aload_n hx hb d_Re_take_42 rfl (lv_at hl 0 rfl) ?_
  refine va_get (D := D) (ci := 2) (v := .ref rc) (C := R_Re) (T := T_Re) (N := 4) hx hb hts (fun w h => List.mem_cons_of_mem _ (inA_Re w h)) hown hK hP 0 rfl rfl 1 (by decide) (hw k_Re_f20) (fun _ h9 => h9) rfl d_Re_take_43 ?_
  refine lv_aload_n hx hb d_Re_take_46 rfl (lv_at hl 0 rfl) ?_
  refine va_get (D := D) (ci := 2) (v := .int (zI ((ct : Nat) : Int))) (C := R_Re) (T := T_Re) (N := 4) hx hb hts (fun w h => List.mem_cons_of_mem _ (inA_Re w h)) hown hK hP 0 rfl rfl 3 (by decide) (hw k_Re_f28) (fun _ h9 => h9) rfl d_Re_take_47 ?_
  refine lv_iload_n hx hb d_Re_take_50 rfl (lv_at hl 1 rfl) ?_
  have hPc : va_P D vwCl [(mo, .inr (1, [.ref me, .ref ms, .int (zB dt)])), (me, .inl (c 0, ne, .inl (fun j => zI ((en j : Nat) : Int)))), (ms, .inr (3, [.ref msw])), (msw, .inl (c 2, 4 * (ne + 1), .inr (.inl mf))), (rc, .inr (3, [.ref rcw])), (rcw, .inl (c 2, 4 * 1001, .inr (.inl rv)))] H := hP.sub (ws' := [(mo, .inr (1, [.ref me, .ref ms, .int (zB dt)])), (me, .inl (c 0, ne, .inl (fun j => zI ((en j : Nat) : Int)))), (ms, .inr (3, [.ref msw])), (msw, .inl (c 2, 4 * (ne + 1), .inr (.inl mf))), (rc, .inr (3, [.ref rcw])), (rcw, .inl (c 2, 4 * 1001, .inr (.inl rv)))]) [4, 5, 6, 7, 2, 3] rfl
  have hDc : va_D A [(mo, .inr (1, [.ref me, .ref ms, .int (zB dt)])), (me, .inl (c 0, ne, .inl (fun j => zI ((en j : Nat) : Int)))), (ms, .inr (3, [.ref msw])), (msw, .inl (c 2, 4 * (ne + 1), .inr (.inl mf))), (rc, .inr (3, [.ref rcw])), (rcw, .inl (c 2, 4 * 1001, .inr (.inl rv)))] := hD.sub (ws' := [(mo, .inr (1, [.ref me, .ref ms, .int (zB dt)])), (me, .inl (c 0, ne, .inl (fun j => zI ((en j : Nat) : Int)))), (ms, .inr (3, [.ref msw])), (msw, .inl (c 2, 4 * (ne + 1), .inr (.inl mf))), (rc, .inr (3, [.ref rcw])), (rcw, .inl (c 2, 4 * 1001, .inr (.inl rv)))]) [4, 5, 6, 7, 2, 3] (by decide) rfl
  have hDt : va_D (fun _ => True) [(mo, .inr (1, [.ref me, .ref ms, .int (zB dt)])), (me, .inl (c 0, ne, .inl (fun j => zI ((en j : Nat) : Int)))), (ms, .inr (3, [.ref msw])), (msw, .inl (c 2, 4 * (ne + 1), .inr (.inl mf))), (rc, .inr (3, [.ref rcw])), (rcw, .inl (c 2, 4 * 1001, .inr (.inl rv)))] := hDc.weaken (fun _ _ _ _ => trivial)
  refine z_callv (S := Unit) (w1 := fun u => [(mo, .inr (1, [.ref me, .ref ms, .int (zB dt)])), (me, .inl (c 0, ne, .inl (fun j => zI ((en j : Nat) : Int)))), (ms, .inr (3, [.ref msw])), (msw, .inl (c 2, 4 * (ne + 1), .inr (.inl mf))), (rc, .inr (3, [.ref rcw])), (rcw, .inl (c 2, 4 * 1001, .inr (.inl (pbk rv en mf ct x ne))))]) (post := fun u => True) (wc := [(mo, .inr (1, [.ref me, .ref ms, .int (zB dt)])), (me, .inl (c 0, ne, .inl (fun j => zI ((en j : Nat) : Int)))), (ms, .inr (3, [.ref msw])), (msw, .inl (c 2, 4 * (ne + 1), .inr (.inl mf))), (rc, .inr (3, [.ref rcw])), (rcw, .inl (c 2, 4 * 1001, .inr (.inl rv)))]) [4, 5, 6, 7, 2, 3] rfl (fun _ => rfl) hP hD hS (va_runV (rm := rm_putBehind) (As := [.ref rc, .int (zI ((ct : Nat) : Int)), .int (zI ((x : Nat) : Int))]) (rest := []) ⟨hx, hb, hml, hown, hts⟩ (c_putBehind l D c rc rcw rv mo me ms msw en ne mf dt ct x (by omega) hen (by omega) (by omega) hoc) (cwV 3 hts (gWV k_Re_m38 k_i_Mo_putBehind k_v_Mo_putBehind k_n_Mo k_c_Mo_putBehind) rfl rfl rfl (by decide +kernel) ⟨Nat.le_of_ble_eq_true rfl, Nat.le_of_ble_eq_true rfl⟩) ⟨zblindW, va_recv hK hPc (ci := 1) (q0 := 0) rfl rfl, fun U hU hW => ⟨rfl, ⟨by rw [hU]; exact hPc, hDt⟩, hKN.moved hW⟩⟩ rfl rfl hl.1 rfl (lv_room (Nat.le_of_ble_eq_true rfl)) d_Re_take_51 ⟨Nat.zero_le _, Nat.zero_le _⟩) (fun u H locs hp_1 hP hD hS => ?_)
  have hP : va_P D vwCl [(rd, .inr (2, [.ref rn, .ref rc, .ref mo, .int (zI ((ct : Nat) : Int))])), (rn, .inl (c 0, 1000, .inl (fun j => zI (((va_up nr ct x) j : Nat) : Int)))), (rc, .inr (3, [.ref rcw])), (rcw, .inl (c 2, 4 * 1001, .inr (.inl (pbk rv en mf ct x ne)))), (mo, .inr (1, [.ref me, .ref ms, .int (zB dt)])), (me, .inl (c 0, ne, .inl (fun j => zI ((en j : Nat) : Int)))), (ms, .inr (3, [.ref msw])), (msw, .inl (c 2, 4 * (ne + 1), .inr (.inl mf)))] H := hP
  have hD : va_D A [(rd, .inr (2, [.ref rn, .ref rc, .ref mo, .int (zI ((ct : Nat) : Int))])), (rn, .inl (c 0, 1000, .inl (fun j => zI (((va_up nr ct x) j : Nat) : Int)))), (rc, .inr (3, [.ref rcw])), (rcw, .inl (c 2, 4 * 1001, .inr (.inl (pbk rv en mf ct x ne)))), (mo, .inr (1, [.ref me, .ref ms, .int (zB dt)])), (me, .inl (c 0, ne, .inl (fun j => zI ((en j : Nat) : Int)))), (ms, .inr (3, [.ref msw])), (msw, .inl (c 2, 4 * (ne + 1), .inr (.inl mf)))] := hD
  refine lv_aload_n hx hb d_Re_take_54 rfl (lv_at hl 0 rfl) ?_
  refine lv_dup hx hb d_Re_take_55 rfl ?_
  refine va_get (D := D) (ci := 2) (v := .int (zI ((ct : Nat) : Int))) (C := R_Re) (T := T_Re) (N := 4) hx hb hts (fun w h => List.mem_cons_of_mem _ (inA_Re w h)) hown hK hP 0 rfl rfl 3 (by decide) (hw k_Re_f28) (fun _ h9 => h9) rfl d_Re_take_56 ?_
  refine lv_iconst (v := zI 1) hx hb d_Re_take_59 (by decide) ?_
  refine z_iadd hx hb d_Re_take_60 ?_
  refine z_top (v2 := .int (zI ((ct + 1 : Nat) : Int))) (congrArg Value.int (congrArg zI (by omega))) ?_
  refine va_put (D := D) (ci := 2) (v := .int (zI ((ct + 1 : Nat) : Int))) (ty := .int) (C := R_Re) (T := T_Re) (N := 4) hx hb hts (fun w h => List.mem_cons_of_mem _ (inA_Re w h)) ty_Re tyok_Re nm_Re hown hK hP hD hS 0 rfl rfl 3 (by decide) (hw k_Re_f28) (fun _ h9 => h9) rfl (by decide +kernel) rfl rfl (Nat.le_of_ble_eq_true rfl) d_Re_take_61 (fun H locs hP hD hS => ?_)
  have hP : va_P D vwCl [(rd, .inr (2, [.ref rn, .ref rc, .ref mo, .int (zI ((ct + 1 : Nat) : Int))])), (rn, .inl (c 0, 1000, .inl (fun j => zI (((va_up nr ct x) j : Nat) : Int)))), (rc, .inr (3, [.ref rcw])), (rcw, .inl (c 2, 4 * 1001, .inr (.inl (pbk rv en mf ct x ne)))), (mo, .inr (1, [.ref me, .ref ms, .int (zB dt)])), (me, .inl (c 0, ne, .inl (fun j => zI ((en j : Nat) : Int)))), (ms, .inr (3, [.ref msw])), (msw, .inl (c 2, 4 * (ne + 1), .inr (.inl mf)))] H := hP
  have hD : va_D A [(rd, .inr (2, [.ref rn, .ref rc, .ref mo, .int (zI ((ct + 1 : Nat) : Int))])), (rn, .inl (c 0, 1000, .inl (fun j => zI (((va_up nr ct x) j : Nat) : Int)))), (rc, .inr (3, [.ref rcw])), (rcw, .inl (c 2, 4 * 1001, .inr (.inl (pbk rv en mf ct x ne)))), (mo, .inr (1, [.ref me, .ref ms, .int (zB dt)])), (me, .inl (c 0, ne, .inl (fun j => zI ((en j : Nat) : Int)))), (ms, .inr (3, [.ref msw])), (msw, .inl (c 2, 4 * (ne + 1), .inr (.inl mf)))] := hD
  refine lv_iconst (v := zI 1) hx hb d_Re_take_64 (by decide) ?_
  subst hQ
  exact W.zret (ty := .boolean) (v := (zI 1)) hx hb hr (by decide) (fun t9 ht hW => ⟨⟨_, (), rfl, ⟨(by decide), trivial⟩, by show va_P _ _ _ t9.heap; rw [ht]; exact hP⟩, hS.F ht⟩) hS.2.2 d_Re_take_65

def rm_mayEnd_null : Room := { frames := 0, cells := 0, slots := 0, locals := 0 }
set_option maxHeartbeats 4000000 in
set_option maxRecDepth 100000 in
/-- Reading.mayEnd, nothing begun -/
theorem c_mayEnd_null (l : Launch) (D : va_G) (c : Nat → ClassId) (rd : Nat) (rn : Nat) (rc : Nat) (rcw : Nat) (nr : Nat → Nat) (rv : Nat → Int64) (ct : Nat)  : Met l y_Re_mayEnd w_Re_mayEnd rm_mayEnd_null (va_Pc [.ref rd] (fun U => va_P D vwCl [(rd, .inr (2, [.ref rn, .ref rc, .null, .int (zI ((ct : Nat) : Int))]))] U.heap ∧ zK D c U)) (vp_Si (fun r => r = (zB false))) 0 0 (fun _ => False) := by
  refine Met.ofW (cc := b_Re_mayEnd) (maxL := 1) (ret := (some .boolean)) (by decide) rfl ?_
  intro p e s m args below meth c0 s₁ B hml hv
  obtain ⟨rfl, hP, hKN⟩ := hv
  have hK := hKN.1
  have hN := hKN.2
  have hx := B.exec
  have hb := B.bytes
  have hr := B.returns
  have hts := atoms_spec (ws := w_Re_mayEnd) B.pre
  have hw : ∀ {w : Cond}, w ∈ ALLW → w.before _ s = true := fun h => hts _ (List.mem_cons_of_mem _ h)
  have hown : s.vm.findClass R_Re = some m.cls := findClass_of_methodNamed B.named
  have hlocks := B.notSynchronized
  have hl := lv_entry ([.ref rd]) (n := 1) (Nat.le_of_ble_eq_true rfl)
  rw [lg_entry_eq]
  generalize (lg_sl ([.ref rd]) ++ List.replicate (1 - (lg_sl ([.ref rd])).length) Slot.unset).toArray = ls at hl ⊢
  have hl : lv_has ls 1 [(0, .ref rd)] := hl
  generalize hQ : MQ below _ _ _ _ _ _ = Q
  refine lv_aload_n hx hb d_Re_mayEnd_0 rfl (lv_at hl 0 rfl) ?_
  refine va_get (D := D) (ci := 2) (v := .null) (C := R_Re) (T := T_Re) (N := 4) hx hb hts (fun w h => List.mem_cons_of_mem _ (inA_Re w h)) hown hK hP 0 rfl rfl 2 (by decide) (hw k_Re_f24) (fun _ h9 => h9) rfl d_Re_mayEnd_1 ?_
  refine lv_ifnullN (tgt := 28) hx hb d_Re_mayEnd_4 (by decide) ?_
  refine lv_iconst (v := zI 0) hx hb d_Re_mayEnd_28 (by decide) ?_
  subst hQ
  exact W.zret (ty := .boolean) (v := (zI 0)) hx hb hr (by decide) (fun t9 ht hW => ⟨_, rfl, (by decide), ht⟩) (fun q hq => absurd hq List.not_mem_nil) d_Re_mayEnd_29

def rm_mayEnd : Room := { frames := 3, cells := 0, slots := 0, locals := 65 }
set_option maxHeartbeats 4000000 in
set_option maxRecDepth 100000 in
/-- Reading.mayEnd -/
theorem c_mayEnd (l : Launch) (D : va_G) (c : Nat → ClassId) (rd : Nat) (rn : Nat) (rc : Nat) (rcw : Nat) (nr : Nat → Nat) (rv : Nat → Int64) (ct : Nat) (mo : Nat) (hct : ct < 1001) : Met l y_Re_mayEnd w_Re_mayEnd rm_mayEnd (va_Pc [.ref rd] (fun U => va_P D vwCl [(rd, .inr (2, [.ref rn, .ref rc, .ref mo, .int (zI ((ct : Nat) : Int))])), (rc, .inr (3, [.ref rcw])), (rcw, .inl (c 2, 4 * 1001, .inr (.inl rv)))] U.heap ∧ zK D c U)) (vp_Si (fun r => r = (zB (zbt rv ct 255)))) 0 0 (fun _ => False) := by
  refine Met.ofW (cc := b_Re_mayEnd) (maxL := 1) (ret := (some .boolean)) (by decide) rfl ?_
  intro p e s m args below meth c0 s₁ B hml hv
  obtain ⟨rfl, hP, hKN⟩ := hv
  have hK := hKN.1
  have hN := hKN.2
  have hx := B.exec
  have hb := B.bytes
  have hr := B.returns
  have hts := atoms_spec (ws := w_Re_mayEnd) B.pre
  have hw : ∀ {w : Cond}, w ∈ ALLW → w.before _ s = true := fun h => hts _ (List.mem_cons_of_mem _ h)
  have hown : s.vm.findClass R_Re = some m.cls := findClass_of_methodNamed B.named
  have hlocks := B.notSynchronized
  have hl := lv_entry ([.ref rd]) (n := 1) (Nat.le_of_ble_eq_true rfl)
  rw [lg_entry_eq]
  generalize (lg_sl ([.ref rd]) ++ List.replicate (1 - (lg_sl ([.ref rd])).length) Slot.unset).toArray = ls at hl ⊢
  have hl : lv_has ls 1 [(0, .ref rd)] := hl
  generalize hQ : MQ below _ _ _ _ _ _ = Q
  refine lv_aload_n hx hb d_Re_mayEnd_0 rfl (lv_at hl 0 rfl) ?_
  refine va_get (D := D) (ci := 2) (v := .ref mo) (C := R_Re) (T := T_Re) (N := 4) hx hb hts (fun w h => List.mem_cons_of_mem _ (inA_Re w h)) hown hK hP 0 rfl rfl 2 (by decide) (hw k_Re_f24) (fun _ h9 => h9) rfl d_Re_mayEnd_1 ?_
  refine lv_ifnull hx hb d_Re_mayEnd_4 ?_
  refine lv_aload_n hx hb d_Re_mayEnd_7 rfl (lv_at hl 0 rfl) ?_
  refine va_get (D := D) (ci := 2) (v := .ref rc) (C := R_Re) (T := T_Re) (N := 4) hx hb hts (fun w h => List.mem_cons_of_mem _ (inA_Re w h)) hown hK hP 0 rfl rfl 1 (by decide) (hw k_Re_f20) (fun _ h9 => h9) rfl d_Re_mayEnd_8 ?_
  refine lv_aload_n hx hb d_Re_mayEnd_11 rfl (lv_at hl 0 rfl) ?_
  refine va_get (D := D) (ci := 2) (v := .int (zI ((ct : Nat) : Int))) (C := R_Re) (T := T_Re) (N := 4) hx hb hts (fun w h => List.mem_cons_of_mem _ (inA_Re w h)) hown hK hP 0 rfl rfl 3 (by decide) (hw k_Re_f28) (fun _ h9 => h9) rfl d_Re_mayEnd_12 ?_
  refine lv_sipush (v := zI 255) hx hb d_Re_mayEnd_15 (by decide) ?_
  have hPc : va_P D vwCl [(rc, .inr (3, [.ref rcw])), (rcw, .inl (c 2, 4 * 1001, .inr (.inl rv)))] s.heap := hP.sub (ws' := [(rc, .inr (3, [.ref rcw])), (rcw, .inl (c 2, 4 * 1001, .inr (.inl rv)))]) [1, 2] rfl
  refine vp_callSi (va_runV (rm := rm_holds) (As := [.int (zI ((ct : Nat) : Int)), .int (zI 255)]) (rest := []) ⟨hx, hb, hml, hown, hts⟩ (c_holds l D c rc rcw 1001 rv ct 255 (by omega) (by omega) (by omega)) (cwV 2 hts (gWV k_Re_m42 k_i_Se_holds k_v_Se_holds k_n_Se k_c_Se_holds) rfl rfl rfl (by decide +kernel) ⟨Nat.le_of_ble_eq_true rfl, Nat.le_of_ble_eq_true rfl⟩) ⟨zblind, va_recv hK hPc (ci := 3) (q0 := 0) rfl rfl, fun U hU hW => ⟨rfl, by rw [hU]; exact hPc, hKN.moved hW⟩⟩ rfl rfl hl.1 rfl (lv_room (Nat.le_of_ble_eq_true rfl)) d_Re_mayEnd_18 ⟨Nat.zero_le _, Nat.zero_le _⟩).run (fun r hr_1 => ?_)
  subst hr_1
  refine z_ifeq_B (tgt := 28) hx hb d_Re_mayEnd_21 (by decide) (fun hc_21 => ?_) (fun hc_21 => ?_)
  · refine lv_iconst (v := zI 0) hx hb d_Re_mayEnd_28 (by decide) ?_
    subst hQ
    exact W.zret (ty := .boolean) (v := (zI 0)) hx hb hr (by decide) (fun t9 ht hW => ⟨_, rfl, (by rw [hc_21]; decide), ht⟩) (fun q hq => absurd hq List.not_mem_nil) d_Re_mayEnd_29
  · refine lv_iconst (v := zI 1) hx hb d_Re_mayEnd_24 (by decide) ?_
    refine lv_goto (tgt := 29) hx hb d_Re_mayEnd_25 (by decide) ?_
    subst hQ
    exact W.zret (ty := .boolean) (v := (zI 1)) hx hb hr (by decide) (fun t9 ht hW => ⟨_, rfl, (by rw [hc_21]; decide), ht⟩) (fun q hq => absurd hq List.not_mem_nil) d_Re_mayEnd_29

def rm_mayTake_null : Room := { frames := 0, cells := 0, slots := 0, locals := 0 }
set_option maxHeartbeats 4000000 in
set_option maxRecDepth 100000 in
/-- Reading.mayTake, nothing begun -/
theorem c_mayTake_null (l : Launch) (D : va_G) (c : Nat → ClassId) (rd : Nat) (rn : Nat) (rc : Nat) (rcw : Nat) (nr : Nat → Nat) (rv : Nat → Int64) (ct : Nat) (x : Int)  : Met l y_Re_mayTake w_Re_mayTake rm_mayTake_null (va_Pc [.ref rd, .int (zI x)] (fun U => va_P D vwCl [(rd, .inr (2, [.ref rn, .ref rc, .null, .int (zI ((ct : Nat) : Int))]))] U.heap ∧ zK D c U)) (vp_Si (fun r => r = (zB false))) 0 0 (fun _ => False) := by
  refine Met.ofW (cc := b_Re_mayTake) (maxL := 2) (ret := (some .boolean)) (by decide) rfl ?_
  intro p e s m args below meth c0 s₁ B hml hv
  obtain ⟨rfl, hP, hKN⟩ := hv
  have hK := hKN.1
  have hN := hKN.2
  have hx := B.exec
  have hb := B.bytes
  have hr := B.returns
  have hts := atoms_spec (ws := w_Re_mayTake) B.pre
  have hw : ∀ {w : Cond}, w ∈ ALLW → w.before _ s = true := fun h => hts _ (List.mem_cons_of_mem _ h)
  have hown : s.vm.findClass R_Re = some m.cls := findClass_of_methodNamed B.named
  have hlocks := B.notSynchronized
  have hl := lv_entry ([.ref rd, .int (zI x)]) (n := 2) (Nat.le_of_ble_eq_true rfl)
  rw [lg_entry_eq]
  generalize (lg_sl ([.ref rd, .int (zI x)]) ++ List.replicate (2 - (lg_sl ([.ref rd, .int (zI x)])).length) Slot.unset).toArray = ls at hl ⊢
  have hl : lv_has ls 2 [(0, .ref rd), (1, .int (zI x))] := hl
  generalize hQ : MQ below _ _ _ _ _ _ = Q
  refine lv_aload_n hx hb d_Re_mayTake_0 rfl (lv_at hl 0 rfl) ?_
  refine va_get (D := D) (ci := 2) (v := .null) (C := R_Re) (T := T_Re) (N := 4) hx hb hts (fun w h => List.mem_cons_of_mem _ (inA_Re w h)) hown hK hP 0 rfl rfl 2 (by decide) (hw k_Re_f24) (fun _ h9 => h9) rfl d_Re_mayTake_1 ?_
  refine lv_ifnullN (tgt := 30) hx hb d_Re_mayTake_4 (by decide) ?_
  refine lv_iconst (v := zI 0) hx hb d_Re_mayTake_30 (by decide) ?_
  subst hQ
  exact W.zret (ty := .boolean) (v := (zI 0)) hx hb hr (by decide) (fun t9 ht hW => ⟨_, rfl, (by decide), ht⟩) (fun q hq => absurd hq List.not_mem_nil) d_Re_mayTake_31

def rm_mayTake : Room := { frames := 4, cells := 0, slots := 0, locals := 89 }
set_option maxHeartbeats 4000000 in
set_option maxRecDepth 100000 in
/-- Reading.mayTake -/
theorem c_mayTake (l : Launch) (D : va_G) (c : Nat → ClassId) (rd : Nat) (rn : Nat) (rc : Nat) (rcw : Nat) (nr : Nat → Nat) (rv : Nat → Int64) (ct : Nat) (mo : Nat) (me : Nat) (ms : Nat) (msw : Nat) (en : Nat → Nat) (ne : Nat) (mf : Nat → Int64) (dt : Bool) (x : Int) (hne : ne ≤ 255) (hen : ∀ j, j < ne → en j < 300000) (hct : ct < 1001) (hx_ : -2147483648 ≤ x ∧ x < 2147483648) : Met l y_Re_mayTake w_Re_mayTake rm_mayTake (va_Pc [.ref rd, .int (zI x)] (fun U => va_P D vwCl [(rd, .inr (2, [.ref rn, .ref rc, .ref mo, .int (zI ((ct : Nat) : Int))])), (rc, .inr (3, [.ref rcw])), (rcw, .inl (c 2, 4 * 1001, .inr (.inl rv))), (mo, .inr (1, [.ref me, .ref ms, .int (zB dt)])), (me, .inl (c 0, ne, .inl (fun j => zI ((en j : Nat) : Int))))] U.heap ∧ zK D c U)) (vp_Si (fun r => r = (zB (hnm rv en ct x ne)))) 0 0 (fun _ => False) := by
  refine Met.ofW (cc := b_Re_mayTake) (maxL := 2) (ret := (some .boolean)) (by decide) rfl ?_
  intro p e s m args below meth c0 s₁ B hml hv
  obtain ⟨rfl, hP, hKN⟩ := hv
  have hK := hKN.1
  have hN := hKN.2
  have hx := B.exec
  have hb := B.bytes
  have hr := B.returns
  have hts := atoms_spec (ws := w_Re_mayTake) B.pre
  have hw : ∀ {w : Cond}, w ∈ ALLW → w.before _ s = true := fun h => hts _ (List.mem_cons_of_mem _ h)
  have hown : s.vm.findClass R_Re = some m.cls := findClass_of_methodNamed B.named
  have hlocks := B.notSynchronized
  have hl := lv_entry ([.ref rd, .int (zI x)]) (n := 2) (Nat.le_of_ble_eq_true rfl)
  rw [lg_entry_eq]
  generalize (lg_sl ([.ref rd, .int (zI x)]) ++ List.replicate (2 - (lg_sl ([.ref rd, .int (zI x)])).length) Slot.unset).toArray = ls at hl ⊢
  have hl : lv_has ls 2 [(0, .ref rd), (1, .int (zI x))] := hl
  generalize hQ : MQ below _ _ _ _ _ _ = Q
  refine lv_aload_n hx hb d_Re_mayTake_0 rfl (lv_at hl 0 rfl) ?_
  refine va_get (D := D) (ci := 2) (v := .ref mo) (C := R_Re) (T := T_Re) (N := 4) hx hb hts (fun w h => List.mem_cons_of_mem _ (inA_Re w h)) hown hK hP 0 rfl rfl 2 (by decide) (hw k_Re_f24) (fun _ h9 => h9) rfl d_Re_mayTake_1 ?_
  refine lv_ifnull hx hb d_Re_mayTake_4 ?_
  refine lv_aload_n hx hb d_Re_mayTake_7 rfl (lv_at hl 0 rfl) ?_
  refine va_get (D := D) (ci := 2) (v := .ref mo) (C := R_Re) (T := T_Re) (N := 4) hx hb hts (fun w h => List.mem_cons_of_mem _ (inA_Re w h)) hown hK hP 0 rfl rfl 2 (by decide) (hw k_Re_f24) (fun _ h9 => h9) rfl d_Re_mayTake_8 ?_
  refine lv_aload_n hx hb d_Re_mayTake_11 rfl (lv_at hl 0 rfl) ?_
  refine va_get (D := D) (ci := 2) (v := .ref rc) (C := R_Re) (T := T_Re) (N := 4) hx hb hts (fun w h => List.mem_cons_of_mem _ (inA_Re w h)) hown hK hP 0 rfl rfl 1 (by decide) (hw k_Re_f20) (fun _ h9 => h9) rfl d_Re_mayTake_12 ?_
  refine lv_aload_n hx hb d_Re_mayTake_15 rfl (lv_at hl 0 rfl) ?_
  refine va_get (D := D) (ci := 2) (v := .int (zI ((ct : Nat) : Int))) (C := R_Re) (T := T_Re) (N := 4) hx hb hts (fun w h => List.mem_cons_of_mem _ (inA_Re w h)) hown hK hP 0 rfl rfl 3 (by decide) (hw k_Re_f28) (fun _ h9 => h9) rfl d_Re_mayTake_16 ?_
  refine lv_iload_n hx hb d_Re_mayTake_19 rfl (lv_at hl 1 rfl) ?_
  have hPc : va_P D vwCl [(mo, .inr (1, [.ref me, .ref ms, .int (zB dt)])), (me, .inl (c 0, ne, .inl (fun j => zI ((en j : Nat) : Int)))), (rc, .inr (3, [.ref rcw])), (rcw, .inl (c 2, 4 * 1001, .inr (.inl rv)))] s.heap := hP.sub (ws' := [(mo, .inr (1, [.ref me, .ref ms, .int (zB dt)])), (me, .inl (c 0, ne, .inl (fun j => zI ((en j : Nat) : Int)))), (rc, .inr (3, [.ref rcw])), (rcw, .inl (c 2, 4 * 1001, .inr (.inl rv)))]) [3, 4, 1, 2] rfl
  refine vp_callSi (va_runV (rm := rm_hasName) (As := [.ref rc, .int (zI ((ct : Nat) : Int)), .int (zI x)]) (rest := []) ⟨hx, hb, hml, hown, hts⟩ (c_hasName l D c rc rcw rv mo me ms msw en ne mf dt ct x (by omega) hen (by omega) (by omega)) (cwV 3 hts (gWV k_Re_m46 k_i_Mo_hasName k_v_Mo_hasName k_n_Mo k_c_Mo_hasName) rfl rfl rfl (by decide +kernel) ⟨Nat.le_of_ble_eq_true rfl, Nat.le_of_ble_eq_true rfl⟩) ⟨zblind, va_recv hK hPc (ci := 1) (q0 := 0) rfl rfl, fun U hU hW => ⟨rfl, by rw [hU]; exact hPc, hKN.moved hW⟩⟩ rfl rfl hl.1 rfl (lv_room (Nat.le_of_ble_eq_true rfl)) d_Re_mayTake_20 ⟨Nat.zero_le _, Nat.zero_le _⟩).run (fun r hr_1 => ?_)
  subst hr_1
  refine z_ifeq_B (tgt := 30) hx hb d_Re_mayTake_23 (by decide) (fun hc_23 => ?_) (fun hc_23 => ?_)
  · refine lv_iconst (v := zI 0) hx hb d_Re_mayTake_30 (by decide) ?_
    subst hQ
    exact W.zret (ty := .boolean) (v := (zI 0)) hx hb hr (by decide) (fun t9 ht hW => ⟨_, rfl, (by rw [hc_23]; decide), ht⟩) (fun q hq => absurd hq List.not_mem_nil) d_Re_mayTake_31
  · refine lv_iconst (v := zI 1) hx hb d_Re_mayTake_26 (by decide) ?_
    refine lv_goto (tgt := 31) hx hb d_Re_mayTake_27 (by decide) ?_
    subst hQ
    exact W.zret (ty := .boolean) (v := (zI 1)) hx hb hr (by decide) (fun t9 ht hW => ⟨_, rfl, (by rw [hc_23]; decide), ht⟩) (fun q hq => absurd hq List.not_mem_nil) d_Re_mayTake_31

def rm_offer_null : Room := { frames := 0, cells := 0, slots := 0, locals := 0 }
set_option maxHeartbeats 4000000 in
set_option maxRecDepth 100000 in
/-- Reading.offer, nothing begun -/
theorem c_offer_null (l : Launch) (D : va_G) (c : Nat → ClassId) (rd : Nat) (rn : Nat) (rc : Nat) (rcw : Nat) (nr : Nat → Nat) (rv : Nat → Int64) (ct : Nat) (x : Int)  : Met l y_Re_offer w_Re_offer rm_offer_null (va_Pc [.ref rd, .int (zI x)] (fun U => va_P D vwCl [(rd, .inr (2, [.ref rn, .ref rc, .null, .int (zI ((ct : Nat) : Int))]))] U.heap ∧ zK D c U)) (vp_Si (fun r => r = (zI (-1)))) 0 0 (fun _ => False) := by
  refine Met.ofW (cc := b_Re_offer) (maxL := 2) (ret := (some .int)) (by decide) rfl ?_
  intro p e s m args below meth c0 s₁ B hml hv
  obtain ⟨rfl, hP, hKN⟩ := hv
  have hK := hKN.1
  have hN := hKN.2
  have hx := B.exec
  have hb := B.bytes
  have hr := B.returns
  have hts := atoms_spec (ws := w_Re_offer) B.pre
  have hw : ∀ {w : Cond}, w ∈ ALLW → w.before _ s = true := fun h => hts _ (List.mem_cons_of_mem _ h)
  have hown : s.vm.findClass R_Re = some m.cls := findClass_of_methodNamed B.named
  have hlocks := B.notSynchronized
  have hl := lv_entry ([.ref rd, .int (zI x)]) (n := 2) (Nat.le_of_ble_eq_true rfl)
  rw [lg_entry_eq]
  generalize (lg_sl ([.ref rd, .int (zI x)]) ++ List.replicate (2 - (lg_sl ([.ref rd, .int (zI x)])).length) Slot.unset).toArray = ls at hl ⊢
  have hl : lv_has ls 2 [(0, .ref rd), (1, .int (zI x))] := hl
  generalize hQ : MQ below _ _ _ _ _ _ = Q
  refine lv_aload_n hx hb d_Re_offer_0 rfl (lv_at hl 0 rfl) ?_
  refine va_get (D := D) (ci := 2) (v := .null) (C := R_Re) (T := T_Re) (N := 4) hx hb hts (fun w h => List.mem_cons_of_mem _ (inA_Re w h)) hown hK hP 0 rfl rfl 2 (by decide) (hw k_Re_f24) (fun _ h9 => h9) rfl d_Re_offer_1 ?_
  refine lv_ifnonnullN hx hb d_Re_offer_4 ?_
  refine lv_iconst (v := zI (-1)) hx hb d_Re_offer_7 (by decide) ?_
  refine lv_goto (tgt := 27) hx hb d_Re_offer_8 (by decide) ?_
  subst hQ
  exact W.iret (v := (zI (-1))) hx hb hr (fun t9 ht hW => ⟨_, rfl, rfl, ht⟩) (fun q hq => absurd hq List.not_mem_nil) d_Re_offer_27

def rm_offer : Room := { frames := 4, cells := 0, slots := 0, locals := 92 }
set_option maxHeartbeats 4000000 in
set_option maxRecDepth 100000 in
/-- Reading.offer -/
theorem c_offer (l : Launch) (D : va_G) (c : Nat → ClassId) (rd : Nat) (rn : Nat) (rc : Nat) (rcw : Nat) (nr : Nat → Nat) (rv : Nat → Int64) (ct : Nat) (mo : Nat) (me : Nat) (ms : Nat) (msw : Nat) (en : Nat → Nat) (ne : Nat) (mf : Nat → Int64) (dt : Bool) (x : Int) (hne : ne ≤ 255) (hen : ∀ j, j < ne → en j < 300000) (hct : ct < 1001) (hx_ : -2147483648 ≤ x ∧ x < 2147483648) : Met l y_Re_offer w_Re_offer rm_offer (va_Pc [.ref rd, .int (zI x)] (fun U => va_P D vwCl [(rd, .inr (2, [.ref rn, .ref rc, .ref mo, .int (zI ((ct : Nat) : Int))])), (rc, .inr (3, [.ref rcw])), (rcw, .inl (c 2, 4 * 1001, .inr (.inl rv))), (mo, .inr (1, [.ref me, .ref ms, .int (zB dt)])), (me, .inl (c 0, ne, .inl (fun j => zI ((en j : Nat) : Int))))] U.heap ∧ zK D c U)) (vp_Si (fun r => r = (zI (naR rv en ct x ne)))) 0 0 (fun _ => False) := by
  refine Met.ofW (cc := b_Re_offer) (maxL := 2) (ret := (some .int)) (by decide) rfl ?_
  intro p e s m args below meth c0 s₁ B hml hv
  obtain ⟨rfl, hP, hKN⟩ := hv
  have hK := hKN.1
  have hN := hKN.2
  have hx := B.exec
  have hb := B.bytes
  have hr := B.returns
  have hts := atoms_spec (ws := w_Re_offer) B.pre
  have hw : ∀ {w : Cond}, w ∈ ALLW → w.before _ s = true := fun h => hts _ (List.mem_cons_of_mem _ h)
  have hown : s.vm.findClass R_Re = some m.cls := findClass_of_methodNamed B.named
  have hlocks := B.notSynchronized
  have hl := lv_entry ([.ref rd, .int (zI x)]) (n := 2) (Nat.le_of_ble_eq_true rfl)
  rw [lg_entry_eq]
  generalize (lg_sl ([.ref rd, .int (zI x)]) ++ List.replicate (2 - (lg_sl ([.ref rd, .int (zI x)])).length) Slot.unset).toArray = ls at hl ⊢
  have hl : lv_has ls 2 [(0, .ref rd), (1, .int (zI x))] := hl
  generalize hQ : MQ below _ _ _ _ _ _ = Q
  refine lv_aload_n hx hb d_Re_offer_0 rfl (lv_at hl 0 rfl) ?_
  refine va_get (D := D) (ci := 2) (v := .ref mo) (C := R_Re) (T := T_Re) (N := 4) hx hb hts (fun w h => List.mem_cons_of_mem _ (inA_Re w h)) hown hK hP 0 rfl rfl 2 (by decide) (hw k_Re_f24) (fun _ h9 => h9) rfl d_Re_offer_1 ?_
  refine lv_ifnonnull (tgt := 11) hx hb d_Re_offer_4 (by decide) ?_
  refine lv_aload_n hx hb d_Re_offer_11 rfl (lv_at hl 0 rfl) ?_
  refine va_get (D := D) (ci := 2) (v := .ref mo) (C := R_Re) (T := T_Re) (N := 4) hx hb hts (fun w h => List.mem_cons_of_mem _ (inA_Re w h)) hown hK hP 0 rfl rfl 2 (by decide) (hw k_Re_f24) (fun _ h9 => h9) rfl d_Re_offer_12 ?_
  refine lv_aload_n hx hb d_Re_offer_15 rfl (lv_at hl 0 rfl) ?_
  refine va_get (D := D) (ci := 2) (v := .ref rc) (C := R_Re) (T := T_Re) (N := 4) hx hb hts (fun w h => List.mem_cons_of_mem _ (inA_Re w h)) hown hK hP 0 rfl rfl 1 (by decide) (hw k_Re_f20) (fun _ h9 => h9) rfl d_Re_offer_16 ?_
  refine lv_aload_n hx hb d_Re_offer_19 rfl (lv_at hl 0 rfl) ?_
  refine va_get (D := D) (ci := 2) (v := .int (zI ((ct : Nat) : Int))) (C := R_Re) (T := T_Re) (N := 4) hx hb hts (fun w h => List.mem_cons_of_mem _ (inA_Re w h)) hown hK hP 0 rfl rfl 3 (by decide) (hw k_Re_f28) (fun _ h9 => h9) rfl d_Re_offer_20 ?_
  refine lv_iload_n hx hb d_Re_offer_23 rfl (lv_at hl 1 rfl) ?_
  have hPc : va_P D vwCl [(mo, .inr (1, [.ref me, .ref ms, .int (zB dt)])), (me, .inl (c 0, ne, .inl (fun j => zI ((en j : Nat) : Int)))), (rc, .inr (3, [.ref rcw])), (rcw, .inl (c 2, 4 * 1001, .inr (.inl rv)))] s.heap := hP.sub (ws' := [(mo, .inr (1, [.ref me, .ref ms, .int (zB dt)])), (me, .inl (c 0, ne, .inl (fun j => zI ((en j : Nat) : Int)))), (rc, .inr (3, [.ref rcw])), (rcw, .inl (c 2, 4 * 1001, .inr (.inl rv)))]) [3, 4, 1, 2] rfl
  refine vp_callSi (va_runV (rm := rm_nameAt) (As := [.ref rc, .int (zI ((ct : Nat) : Int)), .int (zI x)]) (rest := []) ⟨hx, hb, hml, hown, hts⟩ (c_nameAt l D c rc rcw rv mo me ms msw en ne mf dt ct x (by omega) hen (by omega) (by omega)) (cwV 3 hts (gWV k_Re_m50 k_i_Mo_nameAt k_v_Mo_nameAt k_n_Mo k_c_Mo_nameAt) rfl rfl rfl (by decide +kernel) ⟨Nat.le_of_ble_eq_true rfl, Nat.le_of_ble_eq_true rfl⟩) ⟨zblind, va_recv hK hPc (ci := 1) (q0 := 0) rfl rfl, fun U hU hW => ⟨rfl, by rw [hU]; exact hPc, hKN.moved hW⟩⟩ rfl rfl hl.1 rfl (lv_room (Nat.le_of_ble_eq_true rfl)) d_Re_offer_24 ⟨Nat.zero_le _, Nat.zero_le _⟩).run (fun r hr_1 => ?_)
  subst hr_1
  subst hQ
  exact W.iret (v := (zI (naR rv en ct x ne))) hx hb hr (fun t9 ht hW => ⟨_, rfl, rfl, ht⟩) (fun q hq => absurd hq List.not_mem_nil) d_Re_offer_27

def rm_takeBack_null : Room := { frames := 0, cells := 0, slots := 0, locals := 0 }
set_option maxHeartbeats 4000000 in
set_option maxRecDepth 100000 in
/-- Reading.takeBack, nothing begun -/
theorem c_takeBack_null (l : Launch) (D : va_G) (c : Nat → ClassId) (rd : Nat) (rn : Nat) (rc : Nat) (rcw : Nat) (nr : Nat → Nat) (rv : Nat → Int64) (ct : Nat)  : Met l y_Re_takeBack w_Re_takeBack rm_takeBack_null (va_Pc [.ref rd] (fun U => va_P D vwCl [(rd, .inr (2, [.ref rn, .ref rc, .null, .int (zI ((ct : Nat) : Int))]))] U.heap ∧ zK D c U)) (vp_Si (fun r => r = (zI (-1)))) 0 0 (fun _ => False) := by
  refine Met.ofW (cc := b_Re_takeBack) (maxL := 2) (ret := (some .int)) (by decide) rfl ?_
  intro p e s m args below meth c0 s₁ B hml hv
  obtain ⟨rfl, hP, hKN⟩ := hv
  have hK := hKN.1
  have hN := hKN.2
  have hx := B.exec
  have hb := B.bytes
  have hr := B.returns
  have hts := atoms_spec (ws := w_Re_takeBack) B.pre
  have hw : ∀ {w : Cond}, w ∈ ALLW → w.before _ s = true := fun h => hts _ (List.mem_cons_of_mem _ h)
  have hown : s.vm.findClass R_Re = some m.cls := findClass_of_methodNamed B.named
  have hlocks := B.notSynchronized
  have hl := lv_entry ([.ref rd]) (n := 2) (Nat.le_of_ble_eq_true rfl)
  rw [lg_entry_eq]
  generalize (lg_sl ([.ref rd]) ++ List.replicate (2 - (lg_sl ([.ref rd])).length) Slot.unset).toArray = ls at hl ⊢
  have hl : lv_has ls 2 [(0, .ref rd)] := hl
  generalize hQ : MQ below _ _ _ _ _ _ = Q
  refine lv_aload_n hx hb d_Re_takeBack_0 rfl (lv_at hl 0 rfl) ?_
  refine va_get (D := D) (ci := 2) (v := .int (zI ((ct : Nat) : Int))) (C := R_Re) (T := T_Re) (N := 4) hx hb hts (fun w h => List.mem_cons_of_mem _ (inA_Re w h)) hown hK hP 0 rfl rfl 3 (by decide) (hw k_Re_f28) (fun _ h9 => h9) rfl d_Re_takeBack_1 ?_
  refine lv_iconst (v := zI 1) hx hb d_Re_takeBack_4 (by decide) ?_
  refine z_isub hx hb d_Re_takeBack_5 ?_
  refine lv_istore_n (lv' := [(1, .int (zI (((ct : Nat) : Int) - 1))), (0, .ref rd)]) hx hb d_Re_takeBack_6 rfl hl (by decide) rfl (fun ls hl => ?_)
  refine lv_aload_n hx hb d_Re_takeBack_7 rfl (lv_at hl 1 rfl) ?_
  refine va_get (D := D) (ci := 2) (v := .null) (C := R_Re) (T := T_Re) (N := 4) hx hb hts (fun w h => List.mem_cons_of_mem _ (inA_Re w h)) hown hK hP 0 rfl rfl 2 (by decide) (hw k_Re_f24) (fun _ h9 => h9) rfl d_Re_takeBack_8 ?_
  refine lv_ifnullN (tgt := 27) hx hb d_Re_takeBack_11 (by decide) ?_
  refine lv_iconst (v := zI (-1)) hx hb d_Re_takeBack_27 (by decide) ?_
  subst hQ
  exact W.iret (v := (zI (-1))) hx hb hr (fun t9 ht hW => ⟨_, rfl, rfl, ht⟩) (fun q hq => absurd hq List.not_mem_nil) d_Re_takeBack_28

def rm_takeBack_none : Room := { frames := 0, cells := 0, slots := 0, locals := 0 }
set_option maxHeartbeats 4000000 in
set_option maxRecDepth 100000 in
/-- Reading.takeBack, nothing read -/
theorem c_takeBack_none (l : Launch) (D : va_G) (c : Nat → ClassId) (rd : Nat) (rn : Nat) (rc : Nat) (rcw : Nat) (nr : Nat → Nat) (rv : Nat → Int64) (mo : Nat)  : Met l y_Re_takeBack w_Re_takeBack rm_takeBack_none (va_Pc [.ref rd] (fun U => va_P D vwCl [(rd, .inr (2, [.ref rn, .ref rc, .ref mo, .int (zI ((0 : Nat) : Int))]))] U.heap ∧ zK D c U)) (vp_Si (fun r => r = (zI (-1)))) 0 0 (fun _ => False) := by
  refine Met.ofW (cc := b_Re_takeBack) (maxL := 2) (ret := (some .int)) (by decide) rfl ?_
  intro p e s m args below meth c0 s₁ B hml hv
  obtain ⟨rfl, hP, hKN⟩ := hv
  have hK := hKN.1
  have hN := hKN.2
  have hx := B.exec
  have hb := B.bytes
  have hr := B.returns
  have hts := atoms_spec (ws := w_Re_takeBack) B.pre
  have hw : ∀ {w : Cond}, w ∈ ALLW → w.before _ s = true := fun h => hts _ (List.mem_cons_of_mem _ h)
  have hown : s.vm.findClass R_Re = some m.cls := findClass_of_methodNamed B.named
  have hlocks := B.notSynchronized
  have hl := lv_entry ([.ref rd]) (n := 2) (Nat.le_of_ble_eq_true rfl)
  rw [lg_entry_eq]
  generalize (lg_sl ([.ref rd]) ++ List.replicate (2 - (lg_sl ([.ref rd])).length) Slot.unset).toArray = ls at hl ⊢
  have hl : lv_has ls 2 [(0, .ref rd)] := hl
  generalize hQ : MQ below _ _ _ _ _ _ = Q
  refine lv_aload_n hx hb d_Re_takeBack_0 rfl (lv_at hl 0 rfl) ?_
  refine va_get (D := D) (ci := 2) (v := .int (zI ((0 : Nat) : Int))) (C := R_Re) (T := T_Re) (N := 4) hx hb hts (fun w h => List.mem_cons_of_mem _ (inA_Re w h)) hown hK hP 0 rfl rfl 3 (by decide) (hw k_Re_f28) (fun _ h9 => h9) rfl d_Re_takeBack_1 ?_
  refine lv_iconst (v := zI 1) hx hb d_Re_takeBack_4 (by decide) ?_
  refine z_isub hx hb d_Re_takeBack_5 ?_
  refine lv_istore_n (lv' := [(1, .int (zI (((0 : Nat) : Int) - 1))), (0, .ref rd)]) hx hb d_Re_takeBack_6 rfl hl (by decide) rfl (fun ls hl => ?_)
  refine lv_aload_n hx hb d_Re_takeBack_7 rfl (lv_at hl 1 rfl) ?_
  refine va_get (D := D) (ci := 2) (v := .ref mo) (C := R_Re) (T := T_Re) (N := 4) hx hb hts (fun w h => List.mem_cons_of_mem _ (inA_Re w h)) hown hK hP 0 rfl rfl 2 (by decide) (hw k_Re_f24) (fun _ h9 => h9) rfl d_Re_takeBack_8 ?_
  refine lv_ifnull hx hb d_Re_takeBack_11 ?_
  refine lv_iload_n hx hb d_Re_takeBack_14 rfl (lv_at hl 0 rfl) ?_
  refine z_if_lt (tgt := 27) hx hb (by omega) d_Re_takeBack_15 (by decide) (fun hc_15 => ?_) (fun hc_15 => absurd hc_15 (by omega))
  refine lv_iconst (v := zI (-1)) hx hb d_Re_takeBack_27 (by decide) ?_
  subst hQ
  exact W.iret (v := (zI (-1))) hx hb hr (fun t9 ht hW => ⟨_, rfl, rfl, ht⟩) (fun q hq => absurd hq List.not_mem_nil) d_Re_takeBack_28

def rm_takeBack : Room := { frames := 0, cells := 0, slots := 0, locals := 0 }
set_option maxHeartbeats 4000000 in
set_option maxRecDepth 100000 in
/-- Reading.takeBack -/
theorem c_takeBack (l : Launch) (D : va_G) (c : Nat → ClassId) (rd : Nat) (rn : Nat) (rc : Nat) (rcw : Nat) (nr : Nat → Nat) (rv : Nat → Int64) (ct : Nat) (mo : Nat) (hct : ct < 1000) : Met l y_Re_takeBack w_Re_takeBack rm_takeBack (va_Pc [.ref rd] (fun U => (va_P D vwCl [(rd, .inr (2, [.ref rn, .ref rc, .ref mo, .int (zI ((ct + 1 : Nat) : Int))])), (rn, .inl (c 0, 1000, .inl (fun j => zI ((nr j : Nat) : Int))))] U.heap ∧ va_D (fun _ => True) [(rd, .inr (2, [.ref rn, .ref rc, .ref mo, .int (zI ((ct + 1 : Nat) : Int))])), (rn, .inl (c 0, 1000, .inl (fun j => zI ((nr j : Nat) : Int))))]) ∧ zK D c U)) (va_Qi (fun (r : Int32) (u : Unit) => r = (zI ((nr ct : Nat) : Int)) ∧ True) (fun (u : Unit) t9 => va_P D vwCl [(rd, .inr (2, [.ref rn, .ref rc, .ref mo, .int (zI ((ct : Nat) : Int))])), (rn, .inl (c 0, 1000, .inl (fun j => zI ((nr j : Nat) : Int))))] t9.heap) (zA [(rd, .inr (2, [.ref rn, .ref rc, .ref mo, .int (zI ((ct + 1 : Nat) : Int))])), (rn, .inl (c 0, 1000, .inl (fun j => zI ((nr j : Nat) : Int))))])) 0 0 (zA [(rd, .inr (2, [.ref rn, .ref rc, .ref mo, .int (zI ((ct + 1 : Nat) : Int))])), (rn, .inl (c 0, 1000, .inl (fun j => zI ((nr j : Nat) : Int))))]) := by
  refine Met.ofW (cc := b_Re_takeBack) (maxL := 2) (ret := (some .int)) (by decide) rfl ?_
  intro p e s m args below meth c0 s₁ B hml hv
  obtain ⟨rfl, ⟨hP, hD0⟩, hKN⟩ := hv
  have hK := hKN.1
  have hN := hKN.2
  have hx := B.exec
  have hb := B.bytes
  have hr := B.returns
  have hts := atoms_spec (ws := w_Re_takeBack) B.pre
  have hw : ∀ {w : Cond}, w ∈ ALLW → w.before _ s = true := fun h => hts _ (List.mem_cons_of_mem _ h)
  have hown : s.vm.findClass R_Re = some m.cls := findClass_of_methodNamed B.named
  have hlocks := B.notSynchronized
  have hD : va_D (zA [(rd, .inr (2, [.ref rn, .ref rc, .ref mo, .int (zI ((ct + 1 : Nat) : Int))])), (rn, .inl (c 0, 1000, .inl (fun j => zI ((nr j : Nat) : Int))))]) [(rd, .inr (2, [.ref rn, .ref rc, .ref mo, .int (zI ((ct + 1 : Nat) : Int))])), (rn, .inl (c 0, 1000, .inl (fun j => zI ((nr j : Nat) : Int))))] := ⟨hD0.1, fun k q h => List.mem_map.mpr ⟨q, List.mem_of_getElem? h, rfl⟩⟩
  generalize hAe : zA [(rd, .inr (2, [.ref rn, .ref rc, .ref mo, .int (zI ((ct + 1 : Nat) : Int))])), (rn, .inl (c 0, 1000, .inl (fun j => zI ((nr j : Nat) : Int))))] = A at hD ⊢
  have hS : va_S A s.heap s.heap [] := va_S.rf
  have hP : va_P D vwCl [(rd, .inr (2, [.ref rn, .ref rc, .ref mo, .int (zI ((ct + 1 : Nat) : Int))])), (rn, .inl (c 0, 1000, .inl (fun j => zI ((nr j : Nat) : Int))))] s.heap := hP
  have hl := lv_entry ([.ref rd]) (n := 2) (Nat.le_of_ble_eq_true rfl)
  rw [lg_entry_eq]
  generalize (lg_sl ([.ref rd]) ++ List.replicate (2 - (lg_sl ([.ref rd])).length) Slot.unset).toArray = ls at hl ⊢
  have hl : lv_has ls 2 [(0, .ref rd)] := hl
  generalize hQ : MQ below _ _ _ _ _ _ = Q
  refine lv_aload_n hx hb d_Re_takeBack_0 rfl (lv_at hl 0 rfl) ?_
  refine va_get (D := D) (ci := 2) (v := .int (zI ((ct + 1 : Nat) : Int))) (C := R_Re) (T := T_Re) (N := 4) hx hb hts (fun w h => List.mem_cons_of_mem _ (inA_Re w h)) hown hK hP 0 rfl rfl 3 (by decide) (hw k_Re_f28) (fun _ h9 => h9) rfl d_Re_takeBack_1 ?_
  refine lv_iconst (v := zI 1) hx hb d_Re_takeBack_4 (by decide) ?_
  refine z_isub hx hb d_Re_takeBack_5 ?_
  refine z_top (v2 := .int (zI ((ct : Nat) : Int))) (congrArg Value.int (congrArg zI (by omega))) ?_
  refine lv_istore_n (lv' := [(1, .int (zI ((ct : Nat) : Int))), (0, .ref rd)]) hx hb d_Re_takeBack_6 rfl hl (by decide) rfl (fun ls hl => ?_)
  refine lv_aload_n hx hb d_Re_takeBack_7 rfl (lv_at hl 1 rfl) ?_
  refine va_get (D := D) (ci := 2) (v := .ref mo) (C := R_Re) (T := T_Re) (N := 4) hx hb hts (fun w h => List.mem_cons_of_mem _ (inA_Re w h)) hown hK hP 0 rfl rfl 2 (by decide) (hw k_Re_f24) (fun _ h9 => h9) rfl d_Re_takeBack_8 ?_
  refine lv_ifnull hx hb d_Re_takeBack_11 ?_
  refine lv_iload_n hx hb d_Re_takeBack_14 rfl (lv_at hl 0 rfl) ?_
  refine z_if_lt (tgt := 27) hx hb (by omega) d_Re_takeBack_15 (by decide) (fun hc_15 => absurd hc_15 (by omega)) (fun hc_15 => ?_)
  refine lv_iload_n hx hb d_Re_takeBack_18 rfl (lv_at hl 0 rfl) ?_
  refine lv_aload_n hx hb d_Re_takeBack_19 rfl (lv_at hl 1 rfl) ?_
  refine va_get (D := D) (ci := 2) (v := .ref rn) (C := R_Re) (T := T_Re) (N := 4) hx hb hts (fun w h => List.mem_cons_of_mem _ (inA_Re w h)) hown hK hP 0 rfl rfl 0 (by decide) (hw k_Re_f9) (fun _ h9 => h9) rfl d_Re_takeBack_20 ?_
  refine z_alen hx hb hK hP 1 0 rfl rfl d_Re_takeBack_23 ?_
  refine z_top (v2 := .int (zI (1000 : Int))) rfl ?_
  refine z_icmp_lt (tgt := 29) hx hb (by omega) d_Re_takeBack_24 (by decide) (fun hc_24 => ?_) (fun hc_24 => absurd hc_24 (by omega))
  refine lv_aload_n hx hb d_Re_takeBack_29 rfl (lv_at hl 1 rfl) ?_
  refine lv_iload_n hx hb d_Re_takeBack_30 rfl (lv_at hl 0 rfl) ?_
  refine va_put (D := D) (ci := 2) (v := .int (zI ((ct : Nat) : Int))) (ty := .int) (C := R_Re) (T := T_Re) (N := 4) hx hb hts (fun w h => List.mem_cons_of_mem _ (inA_Re w h)) ty_Re tyok_Re nm_Re hown hK hP hD hS 0 rfl rfl 3 (by decide) (hw k_Re_f28) (fun _ h9 => h9) rfl (by decide +kernel) rfl rfl (Nat.le_of_ble_eq_true rfl) d_Re_takeBack_31 (fun H locs hP hD hS => ?_)
  have hP : va_P D vwCl [(rd, .inr (2, [.ref rn, .ref rc, .ref mo, .int (zI ((ct : Nat) : Int))])), (rn, .inl (c 0, 1000, .inl (fun j => zI ((nr j : Nat) : Int))))] H := hP
  have hD : va_D A [(rd, .inr (2, [.ref rn, .ref rc, .ref mo, .int (zI ((ct : Nat) : Int))])), (rn, .inl (c 0, 1000, .inl (fun j => zI ((nr j : Nat) : Int))))] := hD
  refine lv_aload_n hx hb d_Re_takeBack_34 rfl (lv_at hl 1 rfl) ?_
  refine va_get (D := D) (ci := 2) (v := .ref rn) (C := R_Re) (T := T_Re) (N := 4) hx hb hts (fun w h => List.mem_cons_of_mem _ (inA_Re w h)) hown hK hP 0 rfl rfl 0 (by decide) (hw k_Re_f9) (fun _ h9 => h9) rfl d_Re_takeBack_35 ?_
  refine lv_iload_n hx hb d_Re_takeBack_38 rfl (lv_at hl 0 rfl) ?_
  refine z_uald hx hb hK hP 1 0 rfl rfl (ct) (by omega) (by omega) (by omega) d_Re_takeBack_39 ?_
  subst hQ
  exact W.iret (v := (zI ((nr ct : Nat) : Int))) hx hb hr (fun t9 ht hW => ⟨⟨_, (), rfl, ⟨rfl, trivial⟩, by show va_P _ _ _ t9.heap; rw [ht]; exact hP⟩, hS.F ht⟩) hS.2.2 d_Re_takeBack_40
end
section
def prm (en b : Nat → Nat) (n : Nat) : Prop := ∃ p q : Nat → Nat, ∀ i, i < n → p i < n ∧ q i < n ∧ p (q i) = i ∧ q (p i) = i ∧ b i = en (p i)
theorem prm_rf (en : Nat → Nat) (n : Nat) : prm en en n := ⟨id, id, fun i h => ⟨h, h, rfl, rfl, rfl⟩⟩
theorem prm_congr {en b b2 : Nat → Nat} {n : Nat} (h : prm en b n) (e : ∀ i, i < n → b2 i = b i) : prm en b2 n := by
  obtain ⟨p, q, hpq⟩ := h
  exact ⟨p, q, fun i hi => ⟨(hpq i hi).1, (hpq i hi).2.1, (hpq i hi).2.2.1, (hpq i hi).2.2.2.1, (e i hi).trans (hpq i hi).2.2.2.2⟩⟩
def swp (x y i : Nat) : Nat := if i = x then y else if i = y then x else i
theorem swp_swp (x y i : Nat) : swp x y (swp x y i) = i := by
  unfold swp
  by_cases h1 : i = x
  · subst h1
    by_cases h2 : y = i
    · simp [h2]
    · simp [h2]
  · by_cases h2 : i = y
    · subst h2; simp [h1]
    · simp [h1, h2]
theorem swp_lt {x y i n : Nat} (hx : x < n) (hy : y < n) (h : i < n) : swp x y i < n := by
  unfold swp
  split
  · exact hy
  · split
    · exact hx
    · exact h
theorem prm_swap {en b : Nat → Nat} {n x y : Nat} (hx : x < n) (hy : y < n) (h : prm en b n) : prm en (fun i => b (swp x y i)) n := by
  obtain ⟨p, q, hpq⟩ := h
  refine ⟨fun i => p (swp x y i), fun i => swp x y (q i), fun i hi => ?_⟩
  have hs := swp_lt hx hy hi
  obtain ⟨a1, a2, a3, a4, a5⟩ := hpq _ hs
  obtain ⟨b1, b2, b3, b4, b5⟩ := hpq i hi
  refine ⟨a1, swp_lt hx hy b2, ?_, ?_, a5⟩
  · show p (swp x y (swp x y (q i))) = i
    rw [swp_swp]; exact b3
  · show swp x y (q (p (swp x y i))) = i
    rw [a4, swp_swp]
/-- the state of the inner loop of an insertion: a hole at 'at', the number 'mv' that comes there -/
def insI (a : Nat → Nat) (i at_ mv : Nat) : Prop := (∀ x y, x < y → y ≤ i → ¬ x = at_ → ¬ y = at_ → a x ≤ a y) ∧ ∀ y, at_ < y → y ≤ i → mv ≤ a y
theorem ins_start {a : Nat → Nat} {i : Nat} (h : ∀ x y, x < y → y < i → a x ≤ a y) : insI a i i (a i) := ⟨fun x y h1 h2 h3 h4 => h x y h1 (by omega), fun y h1 h2 => by omega⟩
theorem ins_step {a : Nat → Nat} {i at_ mv : Nat} (hi : at_ + 1 ≤ i) (h : insI a i (at_ + 1) mv) (hm : mv < a at_) : insI (va_up a (at_ + 1) (a at_)) i at_ mv := by
  refine ⟨fun x y h1 h2 h3 h4 => ?_, fun y h1 h2 => ?_⟩
  · unfold va_up
    by_cases hy : y = at_ + 1
    · rw [if_pos hy, if_neg (by omega)]
      exact h.1 x at_ (by omega) (by omega) (by omega) (by omega)
    · rw [if_neg hy]
      by_cases hx : x = at_ + 1
      · rw [if_pos hx]
        exact h.1 at_ y (by omega) h2 (by omega) hy
      · rw [if_neg hx]
        exact h.1 x y h1 h2 hx hy
  · unfold va_up
    by_cases hy : y = at_ + 1
    · rw [if_pos hy]; omega
    · rw [if_neg hy]; exact h.2 y (by omega) h2
theorem ins_end {a : Nat → Nat} {i at_ mv : Nat} (hi : at_ ≤ i) (h : insI a i at_ mv) (he : at_ = 0 ∨ a (at_ - 1) ≤ mv) : ∀ x y, x < y → y < i + 1 → va_up a at_ mv x ≤ va_up a at_ mv y := by
  intro x y h1 h2
  unfold va_up
  by_cases hy : y = at_
  · rw [if_pos hy, if_neg (by omega)]
    rcases he with he | he
    · omega
    · by_cases hx : x = at_ - 1
      · rw [hx]; exact he
      · exact Nat.le_trans (h.1 x (at_ - 1) (by omega) (by omega) (by omega) (by omega)) he
  · rw [if_neg hy]
    by_cases hx : x = at_
    · rw [if_pos hx]; exact h.2 y (by omega) (by omega)
    · rw [if_neg hx]; exact h.1 x y h1 (by omega) hx hy
theorem ins_prm {en a : Nat → Nat} {n at_ mv : Nat} (ha : at_ + 1 < n) (h : prm en (va_up a (at_ + 1) mv) n) : prm en (va_up (va_up a (at_ + 1) (a at_)) at_ mv) n := by
  refine prm_congr (prm_swap (x := at_) (y := at_ + 1) (by omega) ha h) (fun i hi => ?_)
  unfold va_up swp
  by_cases h1 : i = at_
  · subst h1; simp
  · by_cases h2 : i = at_ + 1
    · subst h2; simp
    · simp [h1, h2]
def srt (en b : Nat → Nat) (n : Nat) : Prop := (∀ x y, x < y → y < n → b x ≤ b y) ∧ prm en b n
def tmw (fw lw : Nat → Int64) : Nat → (Nat → Int64)
  | 0 => z0J
  | i + 1 => if zbt lw 0 i = true then zadd (zor (tmw fw lw i) i fw i) i 255 else zor (tmw fw lw i) i fw i
theorem tmw_T {fw lw : Nat → Int64} {i : Nat} (h : zbt lw 0 i = true) : tmw fw lw (i + 1) = zadd (zor (tmw fw lw i) i fw i) i 255 := by rw [tmw, if_pos h]
theorem tmw_F {fw lw : Nat → Int64} {i : Nat} (h : zbt lw 0 i = false) : tmw fw lw (i + 1) = zor (tmw fw lw i) i fw i := by rw [tmw, if_neg (by rw [h]; decide)]
def tmE (fw iw lw : Nat → Int64) (nn : Bool) (n : Nat) : Nat → Int64 := if nn = true then zadd (zor (tmw fw lw n) n iw 0) n 255 else zor (tmw fw lw n) n iw 0
theorem tmE_T {fw iw lw : Nat → Int64} {nn : Bool} {n : Nat} (h : nn = true) : tmE fw iw lw nn n = zadd (zor (tmw fw lw n) n iw 0) n 255 := if_pos h
theorem tmE_F {fw iw lw : Nat → Int64} {nn : Bool} {n : Nat} (h : nn = false) : tmE fw iw lw nn n = zor (tmw fw lw n) n iw 0 := if_neg (by rw [h]; decide)
def tmN (nm : Nat → Nat) : Nat → (Nat → Nat)
  | 0 => z0N
  | i + 1 => va_up (tmN nm i) i (nm i * 256 + i)

theorem prm_lt {en b : Nat → Nat} {n B : Nat} (hen : ∀ j, j < n → en j < B) (h : prm en b n) (i : Nat) (hi : i < n) : b i < B := by
  obtain ⟨p, q, hpq⟩ := h
  obtain ⟨a1, -, -, -, a5⟩ := hpq i hi
  rw [a5]; exact hen _ a1
theorem prm_lt1 {en b : Nat → Nat} {n B at_ mv : Nat} (hen : ∀ j, j < n → en j < B) (h : prm en (va_up b at_ mv) n) (i : Nat) (hi : i < n) (hne : ¬ i = at_) : b i < B := by
  have := prm_lt hen h i hi
  unfold va_up at this
  rwa [if_neg hne] at this
theorem ins_step1 {a : Nat → Nat} {i at_ mv : Nat} (h0 : 0 < at_) (hi : at_ ≤ i) (h : insI a i at_ mv) (hm : mv < a (at_ - 1)) : insI (va_up a at_ (a (at_ - 1))) i (at_ - 1) mv := by
  obtain ⟨k, rfl⟩ : ∃ k, at_ = k + 1 := ⟨at_ - 1, by omega⟩
  exact ins_step hi h hm
theorem ins_prm1 {en a : Nat → Nat} {n at_ mv : Nat} (h0 : 0 < at_) (ha : at_ < n) (h : prm en (va_up a at_ mv) n) : prm en (va_up (va_up a at_ (a (at_ - 1))) (at_ - 1) mv) n := by
  obtain ⟨k, rfl⟩ : ∃ k, at_ = k + 1 := ⟨at_ - 1, by omega⟩
  exact ins_prm ha h
theorem prm_self {en a : Nat → Nat} {n i : Nat} (h : prm en a n) : prm en (va_up a i (a i)) n := prm_congr h (fun x _ => by unfold va_up; by_cases q : x = i <;> simp [q])
theorem tmN_at (nm : Nat → Nat) : ∀ i j, j < i → tmN nm i j = nm j * 256 + j
  | 0, j, h => by omega
  | i + 1, j, h => by
    rw [tmN]
    unfold va_up
    by_cases hj : j = i
    · rw [if_pos hj, hj]
    · rw [if_neg hj, tmN_at nm i j (by omega)]

def rm_setsInit (M : Nat) : Room := { frames := 1, cells := 1, slots := M, locals := 21 }
set_option maxHeartbeats 4000000 in
set_option maxRecDepth 100000 in
/-- Sets(count) -/
theorem c_setsInit (l : Launch) (D : va_G) (c : Nat → ClassId) (h : Nat) (k : Nat) (M : Nat) (sz : Nat) (hk : k < 100000) (hM : 4 * k ≤ M) : Met l y_Se_init w_Se_init (rm_setsInit M) (va_Pc [.ref h, .int (zI ((k : Nat) : Int))] (fun U => (U.heap.size = sz ∧ va_P D vwCl [(h, .inr (3, [.null]))] U.heap ∧ va_D (fun _ => True) [(h, .inr (3, [.null]))]) ∧ zK D c U)) (va_Qv (fun (u : Nat) => True) (fun (u : Nat) t9 => va_P D vwCl [(h, .inr (3, [.ref u])), (u, .inl (c 2, 4 * k, .inr (.inl z0J)))] t9.heap ∧ va_D (va_A [(h, .inr (3, [.null]))] sz) [(h, .inr (3, [.ref u])), (u, .inl (c 2, 4 * k, .inr (.inl z0J)))]) (va_A [(h, .inr (3, [.null]))] sz)) 1 M (va_A [(h, .inr (3, [.null]))] sz) := by
  refine Met.ofW (cc := b_Se_init) (maxL := 2) (ret := none) (by decide) rfl ?_
  intro p e s m args below meth c0 s₁ B hml hv
  obtain ⟨rfl, ⟨hsz, hP, hD0⟩, hKN⟩ := hv
  have hK := hKN.1
  have hN := hKN.2
  have hx := B.exec
  have hb := B.bytes
  have hr := B.returns
  have hts := atoms_spec (ws := w_Se_init) B.pre
  have hw : ∀ {w : Cond}, w ∈ ALLW → w.before _ s = true := fun h => hts _ (List.mem_cons_of_mem _ h)
  have hown : s.vm.findClass R_Se = some m.cls := findClass_of_methodNamed B.named
  have hlocks := B.notSynchronized
  have hin : meth.name = "<init>" := (name_of_methodNamed B.named B.method).1
  subst hsz
  have hD := hD0.self (sz := s.heap.size)
  generalize hAe : va_A [(h, .inr (3, [.null]))] s.heap.size = A at hD ⊢
  have hA : ∀ q : Nat, s.heap.size ≤ q → A q := fun q h => by rw [← hAe]; exact Or.inr h
  have hS : va_S A s.heap s.heap [] := va_S.rf
  have hP : va_P D vwCl [(h, .inr (3, [.null]))] s.heap := hP
  have hl := lv_entry ([.ref h, .int (zI ((k : Nat) : Int))]) (n := 2) (Nat.le_of_ble_eq_true rfl)
  rw [lg_entry_eq]
  generalize (lg_sl ([.ref h, .int (zI ((k : Nat) : Int))]) ++ List.replicate (2 - (lg_sl ([.ref h, .int (zI ((k : Nat) : Int))])).length) Slot.unset).toArray = ls at hl ⊢
  have hl : lv_has ls 2 [(0, .ref h), (1, .int (zI ((k : Nat) : Int)))] := hl
  generalize hQ : MQ below _ _ _ _ _ _ = Q
  refine lv_aload_n hx hb d_Se_init_0 rfl (lv_at hl 0 rfl) ?_
  refine W.objInit hx hb hown (hw k_Se_m3) (hw k_i_ob) (hw k_c_ob) rfl (by rw [hml]; exact hl.1) rfl d_Se_init_1 (Nat.le_of_ble_eq_true rfl) (Nat.le_of_ble_eq_true rfl) ?_
  refine W.eq (g2 := F0 m 4 ls []) rfl ?_
  refine lv_aload_n hx hb d_Se_init_4 rfl (lv_at hl 0 rfl) ?_
  refine lv_iload_n hx hb d_Se_init_5 rfl (lv_at hl 1 rfl) ?_
  refine lv_iconst (v := zI 0) hx hb d_Se_init_6 (by decide) ?_
  refine va_mmax hx hb (by rw [hml]; exact hl.1.symm) hown (hw k_Se_m9) (hw k_s_mx) (hw k_n_mx) (hw k_c_mx) (Nat.le_of_ble_eq_true rfl) (Nat.le_of_ble_eq_true rfl) (Nat.le_of_ble_eq_true rfl) (Nat.le_of_ble_eq_true rfl) d_Se_init_7 ?_
  refine z_top (v2 := .int (zI ((k : Nat) : Int))) (congrArg Value.int (z_max0 _ (by omega))) ?_
  refine lv_iconst (v := zI 4) hx hb d_Se_init_10 (by decide) ?_
  refine z_imul hx hb d_Se_init_11 ?_
  refine z_newa (atype := .long) hx hb (hw k_a_long) rfl (fun _ h => h) hK hP hD hS hA 2 rfl (4 * k) (a0 := (4 * k, .inr (.inl z0J))) (z_defJ _) (by omega) (by omega) (by show 4 * k * 8 ≤ _; omega) (Nat.le_of_ble_eq_true rfl) (show 0 + 4 * k ≤ M by omega) d_Se_init_12 (fun a12 H hP hD hS => ?_)
  have hP : va_P D vwCl [(h, .inr (3, [.null])), (a12, .inl (c 2, 4 * k, .inr (.inl z0J)))] H := hP
  have hD : va_D A [(h, .inr (3, [.null])), (a12, .inl (c 2, 4 * k, .inr (.inl z0J)))] := hD
  refine W.widen (k := 1) (n := 0 + 4 * k) (by omega) (by omega) ?_
  refine va_putF (D := D) (ci := 3) (v := .ref a12) (ty := .array .long) (C := R_Se) (T := T_Se) (N := 1) hx hb hts (fun w h => List.mem_cons_of_mem _ (inA_Se w h)) ty_Se tyok_Se nm_Se hown hK hP hD hS 0 rfl rfl 0 (by decide) (hw k_Se_f17) (fun _ h9 => h9) rfl hin rfl (by decide +kernel) rfl rfl (Nat.le_of_ble_eq_true rfl) d_Se_init_14 (fun H locs hP hD hS => ?_)
  have hP : va_P D vwCl [(h, .inr (3, [.ref a12])), (a12, .inl (c 2, 4 * k, .inr (.inl z0J)))] H := hP
  have hD : va_D A [(h, .inr (3, [.ref a12])), (a12, .inl (c 2, 4 * k, .inr (.inl z0J)))] := hD
  subst hQ
  refine W.widen (k := 1) (n := M) (by omega) (by omega) ?_
  exact W.vret hx hb hr (fun t9 ht hW => ⟨⟨a12, rfl, trivial, by show va_P _ _ _ t9.heap; rw [ht]; exact hP.sub [0, 1] rfl, by exact hD.sub [0, 1] (by decide) rfl⟩, hS.F ht⟩) hS.2.2 d_Se_init_17

def rm_draftInit : Room := { frames := 2, cells := 8, slots := 1638, locals := 42 }
set_option maxHeartbeats 4000000 in
set_option maxRecDepth 100000 in
/-- Draft() -/
theorem c_draftInit (l : Launch) (D : va_G) (c : Nat → ClassId) (d : Nat) (sz : Nat)  : Met l y_Dr_init w_Dr_init rm_draftInit (va_Pc [.ref d] (fun U => (U.heap.size = sz ∧ va_P D vwCl [(d, .inr (0, [.null, .null, .null, .null, .null, .int (zI 0), .int (zI 0)]))] U.heap ∧ va_D (fun _ => True) [(d, .inr (0, [.null, .null, .null, .null, .null, .int (zI 0), .int (zI 0)]))]) ∧ zK D c U)) (va_Qv (fun (u : Nat × Nat × Nat × Nat × Nat × Nat × Nat × Nat) => True) (fun (u : Nat × Nat × Nat × Nat × Nat × Nat × Nat × Nat) t9 => va_P D vwCl [(d, .inr (0, [.ref u.1, .ref u.2.1, .ref u.2.2.2.1, .ref u.2.2.2.2.2.1, .ref u.2.2.2.2.2.2.2, .int (zI 0), .int (zI 0)])), (u.1, .inl (c 0, 255, .inl (fun j => zI ((z0N j : Nat) : Int)))), (u.2.1, .inr (3, [.ref u.2.2.1])), (u.2.2.1, .inl (c 2, 4 * 255, .inr (.inl z0J))), (u.2.2.2.1, .inr (3, [.ref u.2.2.2.2.1])), (u.2.2.2.2.1, .inl (c 2, 4 * 40, .inr (.inl z0J))), (u.2.2.2.2.2.1, .inr (3, [.ref u.2.2.2.2.2.2.1])), (u.2.2.2.2.2.2.1, .inl (c 2, 4 * 40, .inr (.inl z0J))), (u.2.2.2.2.2.2.2, .inl (c 1, 40, .inl (fun j => zB (z0B j))))] t9.heap ∧ va_D (va_A [(d, .inr (0, [.null, .null, .null, .null, .null, .int (zI 0), .int (zI 0)]))] sz) [(d, .inr (0, [.ref u.1, .ref u.2.1, .ref u.2.2.2.1, .ref u.2.2.2.2.2.1, .ref u.2.2.2.2.2.2.2, .int (zI 0), .int (zI 0)])), (u.1, .inl (c 0, 255, .inl (fun j => zI ((z0N j : Nat) : Int)))), (u.2.1, .inr (3, [.ref u.2.2.1])), (u.2.2.1, .inl (c 2, 4 * 255, .inr (.inl z0J))), (u.2.2.2.1, .inr (3, [.ref u.2.2.2.2.1])), (u.2.2.2.2.1, .inl (c 2, 4 * 40, .inr (.inl z0J))), (u.2.2.2.2.2.1, .inr (3, [.ref u.2.2.2.2.2.2.1])), (u.2.2.2.2.2.2.1, .inl (c 2, 4 * 40, .inr (.inl z0J))), (u.2.2.2.2.2.2.2, .inl (c 1, 40, .inl (fun j => zB (z0B j))))]) (va_A [(d, .inr (0, [.null, .null, .null, .null, .null, .int (zI 0), .int (zI 0)]))] sz)) 8 1638 (va_A [(d, .inr (0, [.null, .null, .null, .null, .null, .int (zI 0), .int (zI 0)]))] sz) := by
  refine Met.ofW (cc := b_Dr_init) (maxL := 1) (ret := none) (by decide) rfl ?_
  intro p e s m args below meth c0 s₁ B hml hv
  obtain ⟨rfl, ⟨hsz, hP, hD0⟩, hKN⟩ := hv
  have hK := hKN.1
  have hN := hKN.2
  have hx := B.exec
  have hb := B.bytes
  have hr := B.returns
  have hts := atoms_spec (ws := w_Dr_init) B.pre
  have hw : ∀ {w : Cond}, w ∈ ALLW → w.before _ s = true := fun h => hts _ (List.mem_cons_of_mem _ h)
  have hown : s.vm.findClass R_Dr = some m.cls := findClass_of_methodNamed B.named
  have hlocks := B.notSynchronized
  have hin : meth.name = "<init>" := (name_of_methodNamed B.named B.method).1
  subst hsz
  have hD := hD0.self (sz := s.heap.size)
  generalize hAe : va_A [(d, .inr (0, [.null, .null, .null, .null, .null, .int (zI 0), .int (zI 0)]))] s.heap.size = A at hD ⊢
  have hA : ∀ q : Nat, s.heap.size ≤ q → A q := fun q h => by rw [← hAe]; exact Or.inr h
  have hS : va_S A s.heap s.heap [] := va_S.rf
  have hP : va_P D vwCl [(d, .inr (0, [.null, .null, .null, .null, .null, .int (zI 0), .int (zI 0)]))] s.heap := hP
  have hl := lv_entry ([.ref d]) (n := 1) (Nat.le_of_ble_eq_true rfl)
  rw [lg_entry_eq]
  generalize (lg_sl ([.ref d]) ++ List.replicate (1 - (lg_sl ([.ref d])).length) Slot.unset).toArray = ls at hl ⊢
  have hl : lv_has ls 1 [(0, .ref d)] := hl
  generalize hQ : MQ below _ _ _ _ _ _ = Q
  refine lv_aload_n hx hb d_Dr_init_0 rfl (lv_at hl 0 rfl) ?_
  refine W.objInit hx hb hown (hw k_Dr_m3) (hw k_i_ob) (hw k_c_ob) rfl (by rw [hml]; exact hl.1) rfl d_Dr_init_1 (Nat.le_of_ble_eq_true rfl) (Nat.le_of_ble_eq_true rfl) ?_
  refine W.eq (g2 := F0 m 4 ls []) rfl ?_
  refine lv_aload_n hx hb d_Dr_init_4 rfl (lv_at hl 0 rfl) ?_
  refine lv_sipush (v := zI 255) hx hb d_Dr_init_5 (by decide) ?_
  refine z_newa (atype := .int) hx hb (hw k_a_int) rfl (fun _ h => h) hK hP hD hS hA 0 rfl (255) (a0 := (255, .inl (fun j => zI ((z0N j : Nat) : Int)))) (z_defU _) (by omega) (by omega) (by show 255 * 4 ≤ _; omega) (Nat.le_of_ble_eq_true rfl) (Nat.le_of_ble_eq_true rfl) d_Dr_init_8 (fun a8 H hP hD hS => ?_)
  have hP : va_P D vwCl [(d, .inr (0, [.null, .null, .null, .null, .null, .int (zI 0), .int (zI 0)])), (a8, .inl (c 0, 255, .inl (fun j => zI ((z0N j : Nat) : Int))))] H := hP
  have hD : va_D A [(d, .inr (0, [.null, .null, .null, .null, .null, .int (zI 0), .int (zI 0)])), (a8, .inl (c 0, 255, .inl (fun j => zI ((z0N j : Nat) : Int))))] := hD
  refine W.widen (k := 1) (n := 255) (by omega) (by omega) ?_
  refine va_putF (D := D) (ci := 0) (v := .ref a8) (ty := .array .int) (C := R_Dr) (T := T_Dr) (N := 7) hx hb hts (fun w h => List.mem_cons_of_mem _ (inA_Dr w h)) ty_Dr tyok_Dr nm_Dr hown hK hP hD hS 0 rfl rfl 0 (by decide) (hw k_Dr_f9) (fun _ h9 => h9) rfl hin rfl (by decide +kernel) rfl rfl (Nat.le_of_ble_eq_true rfl) d_Dr_init_10 (fun H locs hP hD hS => ?_)
  have hP : va_P D vwCl [(d, .inr (0, [.ref a8, .null, .null, .null, .null, .int (zI 0), .int (zI 0)])), (a8, .inl (c 0, 255, .inl (fun j => zI ((z0N j : Nat) : Int))))] H := hP
  have hD : va_D A [(d, .inr (0, [.ref a8, .null, .null, .null, .null, .int (zI 0), .int (zI 0)])), (a8, .inl (c 0, 255, .inl (fun j => zI ((z0N j : Nat) : Int))))] := hD
  refine lv_aload_n hx hb d_Dr_init_13 rfl (lv_at hl 0 rfl) ?_
  refine va_new (ci := 3) (fs := [.null]) (C := R_Se) (T := T_Se) (N := 1) hx hb hts (fun w h => List.mem_cons_of_mem _ (inA_Se w h)) ty_Se tyok_Se hown (hw k_Dr_c15) (hw k_o_Se) (hw k_n_Se) hK hP hD hS hA rfl (fun j hj => by rcases (show j = 0 by omega) with rfl <;> rfl) (Nat.le_of_ble_eq_true rfl) (Nat.le_of_ble_eq_true rfl) d_Dr_init_14 (fun a14 H hP hD hS => ?_)
  have hP : va_P D vwCl [(d, .inr (0, [.ref a8, .null, .null, .null, .null, .int (zI 0), .int (zI 0)])), (a8, .inl (c 0, 255, .inl (fun j => zI ((z0N j : Nat) : Int)))), (a14, .inr (3, [.null]))] H := hP
  have hD : va_D A [(d, .inr (0, [.ref a8, .null, .null, .null, .null, .int (zI 0), .int (zI 0)])), (a8, .inl (c 0, 255, .inl (fun j => zI ((z0N j : Nat) : Int)))), (a14, .inr (3, [.null]))] := hD
  refine W.widen (k := 2) (n := 256) (by omega) (by omega) ?_
  refine lv_dup hx hb d_Dr_init_17 rfl ?_
  refine lv_sipush (v := zI 255) hx hb d_Dr_init_18 (by decide) ?_
  have hPc : va_P D vwCl [(a14, .inr (3, [.null]))] H := hP.sub (ws' := [(a14, .inr (3, [.null]))]) [2] rfl
  have hDc : va_D A [(a14, .inr (3, [.null]))] := hD.sub (ws' := [(a14, .inr (3, [.null]))]) [2] (by decide) rfl
  have hDt : va_D (fun _ => True) [(a14, .inr (3, [.null]))] := hDc.weaken (fun _ _ _ _ => trivial)
  have hFc := va_free (wc := [(a14, .inr (3, [.null]))]) hD hS hA [2] rfl
  refine va_callv (va_runI (rm := (rm_setsInit 1020)) (As := [.int (zI 255)]) (rest := [.ref a14, .ref d]) ⟨hx, hb, hml, hown, hts⟩ (c_setsInit l D c a14 255 1020 H.size (by omega) (by omega)) (cwI 1 hts (gW k_c_Se_init) rfl rfl rfl (hw k_n_Se) (hw k_Dr_m17) (hw k_i_Se_init) rfl (by decide +kernel) ⟨Nat.le_of_ble_eq_true rfl, Nat.le_of_ble_eq_true rfl⟩) ⟨zblindA, fun U hU hW => ⟨rfl, ⟨by rw [hU], by rw [hU]; exact hPc, hDt⟩, hKN.moved hW⟩⟩ rfl rfl hl.1 rfl (lv_room (Nat.le_of_ble_eq_true rfl)) d_Dr_init_21 ⟨Nat.le_of_ble_eq_true rfl, Nat.le_of_ble_eq_true rfl⟩) hS (fun q _ h => hFc q h) hFc (fun u t9 H1 locs ht hvm hp_2 hB hz1 hk1 hS => ?_)
  obtain ⟨b21, rfl⟩ : ∃ z, z = u := ⟨_, rfl⟩
  have hp_2 : True := hp_2
  obtain ⟨hP1, hD1⟩ := hB
  rw [ht] at hP1
  obtain ⟨hP, hD⟩ := va_join (wr := [(d, .inr (0, [.ref a8, .null, .null, .null, .null, .int (zI 0), .int (zI 0)])), (a8, .inl (c 0, 255, .inl (fun j => zI ((z0N j : Nat) : Int))))]) (w1 := [(a14, .inr (3, [.ref b21])), (b21, .inl (c 2, 4 * 255, .inr (.inl z0J)))]) hP hD [2] [0, 1] rfl rfl (by decide) (by decide) hk1 hFc hP1 hD1
  generalize H1 = H at hP hS ⊢
  have hP : va_P D vwCl [(d, .inr (0, [.ref a8, .null, .null, .null, .null, .int (zI 0), .int (zI 0)])), (a8, .inl (c 0, 255, .inl (fun j => zI ((z0N j : Nat) : Int)))), (a14, .inr (3, [.ref b21])), (b21, .inl (c 2, 4 * 255, .inr (.inl z0J)))] H := hP.sub [0, 1, 2, 3] rfl
  have hD : va_D A [(d, .inr (0, [.ref a8, .null, .null, .null, .null, .int (zI 0), .int (zI 0)])), (a8, .inl (c 0, 255, .inl (fun j => zI ((z0N j : Nat) : Int)))), (a14, .inr (3, [.ref b21])), (b21, .inl (c 2, 4 * 255, .inr (.inl z0J)))] := hD.sub [0, 1, 2, 3] (by decide) rfl
  refine W.widen (k := 3) (n := 1276) (by omega) (by omega) ?_
  refine va_putF (D := D) (ci := 0) (v := .ref a14) (ty := .object "RowModels$Sets") (C := R_Dr) (T := T_Dr) (N := 7) hx hb hts (fun w h => List.mem_cons_of_mem _ (inA_Dr w h)) ty_Dr tyok_Dr nm_Dr hown hK hP hD hS 0 rfl rfl 1 (by decide) (hw k_Dr_f20) (fun _ h9 => h9) rfl hin rfl (by decide +kernel) rfl rfl (Nat.le_of_ble_eq_true rfl) d_Dr_init_24 (fun H locs hP hD hS => ?_)
  have hP : va_P D vwCl [(d, .inr (0, [.ref a8, .ref a14, .null, .null, .null, .int (zI 0), .int (zI 0)])), (a8, .inl (c 0, 255, .inl (fun j => zI ((z0N j : Nat) : Int)))), (a14, .inr (3, [.ref b21])), (b21, .inl (c 2, 4 * 255, .inr (.inl z0J)))] H := hP
  have hD : va_D A [(d, .inr (0, [.ref a8, .ref a14, .null, .null, .null, .int (zI 0), .int (zI 0)])), (a8, .inl (c 0, 255, .inl (fun j => zI ((z0N j : Nat) : Int)))), (a14, .inr (3, [.ref b21])), (b21, .inl (c 2, 4 * 255, .inr (.inl z0J)))] := hD
  refine lv_aload_n hx hb d_Dr_init_27 rfl (lv_at hl 0 rfl) ?_
  refine va_new (ci := 3) (fs := [.null]) (C := R_Se) (T := T_Se) (N := 1) hx hb hts (fun w h => List.mem_cons_of_mem _ (inA_Se w h)) ty_Se tyok_Se hown (hw k_Dr_c15) (hw k_o_Se) (hw k_n_Se) hK hP hD hS hA rfl (fun j hj => by rcases (show j = 0 by omega) with rfl <;> rfl) (Nat.le_of_ble_eq_true rfl) (Nat.le_of_ble_eq_true rfl) d_Dr_init_28 (fun a28 H hP hD hS => ?_)
  have hP : va_P D vwCl [(d, .inr (0, [.ref a8, .ref a14, .null, .null, .null, .int (zI 0), .int (zI 0)])), (a8, .inl (c 0, 255, .inl (fun j => zI ((z0N j : Nat) : Int)))), (a14, .inr (3, [.ref b21])), (b21, .inl (c 2, 4 * 255, .inr (.inl z0J))), (a28, .inr (3, [.null]))] H := hP
  have hD : va_D A [(d, .inr (0, [.ref a8, .ref a14, .null, .null, .null, .int (zI 0), .int (zI 0)])), (a8, .inl (c 0, 255, .inl (fun j => zI ((z0N j : Nat) : Int)))), (a14, .inr (3, [.ref b21])), (b21, .inl (c 2, 4 * 255, .inr (.inl z0J))), (a28, .inr (3, [.null]))] := hD
  refine W.widen (k := 4) (n := 1277) (by omega) (by omega) ?_
  refine lv_dup hx hb d_Dr_init_31 rfl ?_
  refine lv_bipush (v := zI 40) hx hb d_Dr_init_32 (by decide) ?_
  have hPc : va_P D vwCl [(a28, .inr (3, [.null]))] H := hP.sub (ws' := [(a28, .inr (3, [.null]))]) [4] rfl
  have hDc : va_D A [(a28, .inr (3, [.null]))] := hD.sub (ws' := [(a28, .inr (3, [.null]))]) [4] (by decide) rfl
  have hDt : va_D (fun _ => True) [(a28, .inr (3, [.null]))] := hDc.weaken (fun _ _ _ _ => trivial)
  have hFc := va_free (wc := [(a28, .inr (3, [.null]))]) hD hS hA [4] rfl
  refine va_callv (va_runI (rm := (rm_setsInit 160)) (As := [.int (zI 40)]) (rest := [.ref a28, .ref d]) ⟨hx, hb, hml, hown, hts⟩ (c_setsInit l D c a28 40 160 H.size (by omega) (by omega)) (cwI 1 hts (gW k_c_Se_init) rfl rfl rfl (hw k_n_Se) (hw k_Dr_m17) (hw k_i_Se_init) rfl (by decide +kernel) ⟨Nat.le_of_ble_eq_true rfl, Nat.le_of_ble_eq_true rfl⟩) ⟨zblindA, fun U hU hW => ⟨rfl, ⟨by rw [hU], by rw [hU]; exact hPc, hDt⟩, hKN.moved hW⟩⟩ rfl rfl hl.1 rfl (lv_room (Nat.le_of_ble_eq_true rfl)) d_Dr_init_34 ⟨Nat.le_of_ble_eq_true rfl, Nat.le_of_ble_eq_true rfl⟩) hS (fun q _ h => hFc q h) hFc (fun u t9 H1 locs ht hvm hp_4 hB hz1 hk1 hS => ?_)
  obtain ⟨b34, rfl⟩ : ∃ z, z = u := ⟨_, rfl⟩
  have hp_4 : True := hp_4
  obtain ⟨hP1, hD1⟩ := hB
  rw [ht] at hP1
  obtain ⟨hP, hD⟩ := va_join (wr := [(d, .inr (0, [.ref a8, .ref a14, .null, .null, .null, .int (zI 0), .int (zI 0)])), (a8, .inl (c 0, 255, .inl (fun j => zI ((z0N j : Nat) : Int)))), (a14, .inr (3, [.ref b21])), (b21, .inl (c 2, 4 * 255, .inr (.inl z0J)))]) (w1 := [(a28, .inr (3, [.ref b34])), (b34, .inl (c 2, 4 * 40, .inr (.inl z0J)))]) hP hD [4] [0, 1, 2, 3] rfl rfl (by decide) (by decide) hk1 hFc hP1 hD1
  generalize H1 = H at hP hS ⊢
  have hP : va_P D vwCl [(d, .inr (0, [.ref a8, .ref a14, .null, .null, .null, .int (zI 0), .int (zI 0)])), (a8, .inl (c 0, 255, .inl (fun j => zI ((z0N j : Nat) : Int)))), (a14, .inr (3, [.ref b21])), (b21, .inl (c 2, 4 * 255, .inr (.inl z0J))), (a28, .inr (3, [.ref b34])), (b34, .inl (c 2, 4 * 40, .inr (.inl z0J)))] H := hP.sub [0, 1, 2, 3, 4, 5] rfl
  have hD : va_D A [(d, .inr (0, [.ref a8, .ref a14, .null, .null, .null, .int (zI 0), .int (zI 0)])), (a8, .inl (c 0, 255, .inl (fun j => zI ((z0N j : Nat) : Int)))), (a14, .inr (3, [.ref b21])), (b21, .inl (c 2, 4 * 255, .inr (.inl z0J))), (a28, .inr (3, [.ref b34])), (b34, .inl (c 2, 4 * 40, .inr (.inl z0J)))] := hD.sub [0, 1, 2, 3, 4, 5] (by decide) rfl
  refine W.widen (k := 5) (n := 1437) (by omega) (by omega) ?_
  refine va_putF (D := D) (ci := 0) (v := .ref a28) (ty := .object "RowModels$Sets") (C := R_Dr) (T := T_Dr) (N := 7) hx hb hts (fun w h => List.mem_cons_of_mem _ (inA_Dr w h)) ty_Dr tyok_Dr nm_Dr hown hK hP hD hS 0 rfl rfl 2 (by decide) (hw k_Dr_f24) (fun _ h9 => h9) rfl hin rfl (by decide +kernel) rfl rfl (Nat.le_of_ble_eq_true rfl) d_Dr_init_37 (fun H locs hP hD hS => ?_)
  have hP : va_P D vwCl [(d, .inr (0, [.ref a8, .ref a14, .ref a28, .null, .null, .int (zI 0), .int (zI 0)])), (a8, .inl (c 0, 255, .inl (fun j => zI ((z0N j : Nat) : Int)))), (a14, .inr (3, [.ref b21])), (b21, .inl (c 2, 4 * 255, .inr (.inl z0J))), (a28, .inr (3, [.ref b34])), (b34, .inl (c 2, 4 * 40, .inr (.inl z0J)))] H := hP
  have hD : va_D A [(d, .inr (0, [.ref a8, .ref a14, .ref a28, .null, .null, .int (zI 0), .int (zI 0)])), (a8, .inl (c 0, 255, .inl (fun j => zI ((z0N j : Nat) : Int)))), (a14, .inr (3, [.ref b21])), (b21, .inl (c 2, 4 * 255, .inr (.inl z0J))), (a28, .inr (3, [.ref b34])), (b34, .inl (c 2, 4 * 40, .inr (.inl z0J)))] := hD
  refine lv_aload_n hx hb d_Dr_init_40 rfl (lv_at hl 0 rfl) ?_
  refine va_new (ci := 3) (fs := [.null]) (C := R_Se) (T := T_Se) (N := 1) hx hb hts (fun w h => List.mem_cons_of_mem _ (inA_Se w h)) ty_Se tyok_Se hown (hw k_Dr_c15) (hw k_o_Se) (hw k_n_Se) hK hP hD hS hA rfl (fun j hj => by rcases (show j = 0 by omega) with rfl <;> rfl) (Nat.le_of_ble_eq_true rfl) (Nat.le_of_ble_eq_true rfl) d_Dr_init_41 (fun a41 H hP hD hS => ?_)
  have hP : va_P D vwCl [(d, .inr (0, [.ref a8, .ref a14, .ref a28, .null, .null, .int (zI 0), .int (zI 0)])), (a8, .inl (c 0, 255, .inl (fun j => zI ((z0N j : Nat) : Int)))), (a14, .inr (3, [.ref b21])), (b21, .inl (c 2, 4 * 255, .inr (.inl z0J))), (a28, .inr (3, [.ref b34])), (b34, .inl (c 2, 4 * 40, .inr (.inl z0J))), (a41, .inr (3, [.null]))] H := hP
  have hD : va_D A [(d, .inr (0, [.ref a8, .ref a14, .ref a28, .null, .null, .int (zI 0), .int (zI 0)])), (a8, .inl (c 0, 255, .inl (fun j => zI ((z0N j : Nat) : Int)))), (a14, .inr (3, [.ref b21])), (b21, .inl (c 2, 4 * 255, .inr (.inl z0J))), (a28, .inr (3, [.ref b34])), (b34, .inl (c 2, 4 * 40, .inr (.inl z0J))), (a41, .inr (3, [.null]))] := hD
  refine W.widen (k := 6) (n := 1438) (by omega) (by omega) ?_
  refine lv_dup hx hb d_Dr_init_44 rfl ?_
  refine lv_bipush (v := zI 40) hx hb d_Dr_init_45 (by decide) ?_
  have hPc : va_P D vwCl [(a41, .inr (3, [.null]))] H := hP.sub (ws' := [(a41, .inr (3, [.null]))]) [6] rfl
  have hDc : va_D A [(a41, .inr (3, [.null]))] := hD.sub (ws' := [(a41, .inr (3, [.null]))]) [6] (by decide) rfl
  have hDt : va_D (fun _ => True) [(a41, .inr (3, [.null]))] := hDc.weaken (fun _ _ _ _ => trivial)
  have hFc := va_free (wc := [(a41, .inr (3, [.null]))]) hD hS hA [6] rfl
  refine va_callv (va_runI (rm := (rm_setsInit 160)) (As := [.int (zI 40)]) (rest := [.ref a41, .ref d]) ⟨hx, hb, hml, hown, hts⟩ (c_setsInit l D c a41 40 160 H.size (by omega) (by omega)) (cwI 1 hts (gW k_c_Se_init) rfl rfl rfl (hw k_n_Se) (hw k_Dr_m17) (hw k_i_Se_init) rfl (by decide +kernel) ⟨Nat.le_of_ble_eq_true rfl, Nat.le_of_ble_eq_true rfl⟩) ⟨zblindA, fun U hU hW => ⟨rfl, ⟨by rw [hU], by rw [hU]; exact hPc, hDt⟩, hKN.moved hW⟩⟩ rfl rfl hl.1 rfl (lv_room (Nat.le_of_ble_eq_true rfl)) d_Dr_init_47 ⟨Nat.le_of_ble_eq_true rfl, Nat.le_of_ble_eq_true rfl⟩) hS (fun q _ h => hFc q h) hFc (fun u t9 H1 locs ht hvm hp_6 hB hz1 hk1 hS => ?_)
  obtain ⟨b47, rfl⟩ : ∃ z, z = u := ⟨_, rfl⟩
  have hp_6 : True := hp_6
  obtain ⟨hP1, hD1⟩ := hB
  rw [ht] at hP1
  obtain ⟨hP, hD⟩ := va_join (wr := [(d, .inr (0, [.ref a8, .ref a14, .ref a28, .null, .null, .int (zI 0), .int (zI 0)])), (a8, .inl (c 0, 255, .inl (fun j => zI ((z0N j : Nat) : Int)))), (a14, .inr (3, [.ref b21])), (b21, .inl (c 2, 4 * 255, .inr (.inl z0J))), (a28, .inr (3, [.ref b34])), (b34, .inl (c 2, 4 * 40, .inr (.inl z0J)))]) (w1 := [(a41, .inr (3, [.ref b47])), (b47, .inl (c 2, 4 * 40, .inr (.inl z0J)))]) hP hD [6] [0, 1, 2, 3, 4, 5] rfl rfl (by decide) (by decide) hk1 hFc hP1 hD1
  generalize H1 = H at hP hS ⊢
  have hP : va_P D vwCl [(d, .inr (0, [.ref a8, .ref a14, .ref a28, .null, .null, .int (zI 0), .int (zI 0)])), (a8, .inl (c 0, 255, .inl (fun j => zI ((z0N j : Nat) : Int)))), (a14, .inr (3, [.ref b21])), (b21, .inl (c 2, 4 * 255, .inr (.inl z0J))), (a28, .inr (3, [.ref b34])), (b34, .inl (c 2, 4 * 40, .inr (.inl z0J))), (a41, .inr (3, [.ref b47])), (b47, .inl (c 2, 4 * 40, .inr (.inl z0J)))] H := hP.sub [0, 1, 2, 3, 4, 5, 6, 7] rfl
  have hD : va_D A [(d, .inr (0, [.ref a8, .ref a14, .ref a28, .null, .null, .int (zI 0), .int (zI 0)])), (a8, .inl (c 0, 255, .inl (fun j => zI ((z0N j : Nat) : Int)))), (a14, .inr (3, [.ref b21])), (b21, .inl (c 2, 4 * 255, .inr (.inl z0J))), (a28, .inr (3, [.ref b34])), (b34, .inl (c 2, 4 * 40, .inr (.inl z0J))), (a41, .inr (3, [.ref b47])), (b47, .inl (c 2, 4 * 40, .inr (.inl z0J)))] := hD.sub [0, 1, 2, 3, 4, 5, 6, 7] (by decide) rfl
  refine W.widen (k := 7) (n := 1598) (by omega) (by omega) ?_
  refine va_putF (D := D) (ci := 0) (v := .ref a41) (ty := .object "RowModels$Sets") (C := R_Dr) (T := T_Dr) (N := 7) hx hb hts (fun w h => List.mem_cons_of_mem _ (inA_Dr w h)) ty_Dr tyok_Dr nm_Dr hown hK hP hD hS 0 rfl rfl 3 (by decide) (hw k_Dr_f27) (fun _ h9 => h9) rfl hin rfl (by decide +kernel) rfl rfl (Nat.le_of_ble_eq_true rfl) d_Dr_init_50 (fun H locs hP hD hS => ?_)
  have hP : va_P D vwCl [(d, .inr (0, [.ref a8, .ref a14, .ref a28, .ref a41, .null, .int (zI 0), .int (zI 0)])), (a8, .inl (c 0, 255, .inl (fun j => zI ((z0N j : Nat) : Int)))), (a14, .inr (3, [.ref b21])), (b21, .inl (c 2, 4 * 255, .inr (.inl z0J))), (a28, .inr (3, [.ref b34])), (b34, .inl (c 2, 4 * 40, .inr (.inl z0J))), (a41, .inr (3, [.ref b47])), (b47, .inl (c 2, 4 * 40, .inr (.inl z0J)))] H := hP
  have hD : va_D A [(d, .inr (0, [.ref a8, .ref a14, .ref a28, .ref a41, .null, .int (zI 0), .int (zI 0)])), (a8, .inl (c 0, 255, .inl (fun j => zI ((z0N j : Nat) : Int)))), (a14, .inr (3, [.ref b21])), (b21, .inl (c 2, 4 * 255, .inr (.inl z0J))), (a28, .inr (3, [.ref b34])), (b34, .inl (c 2, 4 * 40, .inr (.inl z0J))), (a41, .inr (3, [.ref b47])), (b47, .inl (c 2, 4 * 40, .inr (.inl z0J)))] := hD
  refine lv_aload_n hx hb d_Dr_init_53 rfl (lv_at hl 0 rfl) ?_
  refine lv_bipush (v := zI 40) hx hb d_Dr_init_54 (by decide) ?_
  refine z_newa (atype := .boolean) hx hb (hw k_a_boolean) rfl (fun _ h => h) hK hP hD hS hA 1 rfl (40) (a0 := (40, .inl (fun j => zB (z0B j)))) (z_defZ _) (by omega) (by omega) (by show 40 * 1 ≤ _; omega) (Nat.le_of_ble_eq_true rfl) (Nat.le_of_ble_eq_true rfl) d_Dr_init_56 (fun a56 H hP hD hS => ?_)
  have hP : va_P D vwCl [(d, .inr (0, [.ref a8, .ref a14, .ref a28, .ref a41, .null, .int (zI 0), .int (zI 0)])), (a8, .inl (c 0, 255, .inl (fun j => zI ((z0N j : Nat) : Int)))), (a14, .inr (3, [.ref b21])), (b21, .inl (c 2, 4 * 255, .inr (.inl z0J))), (a28, .inr (3, [.ref b34])), (b34, .inl (c 2, 4 * 40, .inr (.inl z0J))), (a41, .inr (3, [.ref b47])), (b47, .inl (c 2, 4 * 40, .inr (.inl z0J))), (a56, .inl (c 1, 40, .inl (fun j => zB (z0B j))))] H := hP
  have hD : va_D A [(d, .inr (0, [.ref a8, .ref a14, .ref a28, .ref a41, .null, .int (zI 0), .int (zI 0)])), (a8, .inl (c 0, 255, .inl (fun j => zI ((z0N j : Nat) : Int)))), (a14, .inr (3, [.ref b21])), (b21, .inl (c 2, 4 * 255, .inr (.inl z0J))), (a28, .inr (3, [.ref b34])), (b34, .inl (c 2, 4 * 40, .inr (.inl z0J))), (a41, .inr (3, [.ref b47])), (b47, .inl (c 2, 4 * 40, .inr (.inl z0J))), (a56, .inl (c 1, 40, .inl (fun j => zB (z0B j))))] := hD
  refine W.widen (k := 8) (n := 1638) (by omega) (by omega) ?_
  refine va_putF (D := D) (ci := 0) (v := .ref a56) (ty := .array .boolean) (C := R_Dr) (T := T_Dr) (N := 7) hx hb hts (fun w h => List.mem_cons_of_mem _ (inA_Dr w h)) ty_Dr tyok_Dr nm_Dr hown hK hP hD hS 0 rfl rfl 4 (by decide) (hw k_Dr_f30) (fun _ h9 => h9) rfl hin rfl (by decide +kernel) rfl rfl (Nat.le_of_ble_eq_true rfl) d_Dr_init_58 (fun H locs hP hD hS => ?_)
  have hP : va_P D vwCl [(d, .inr (0, [.ref a8, .ref a14, .ref a28, .ref a41, .ref a56, .int (zI 0), .int (zI 0)])), (a8, .inl (c 0, 255, .inl (fun j => zI ((z0N j : Nat) : Int)))), (a14, .inr (3, [.ref b21])), (b21, .inl (c 2, 4 * 255, .inr (.inl z0J))), (a28, .inr (3, [.ref b34])), (b34, .inl (c 2, 4 * 40, .inr (.inl z0J))), (a41, .inr (3, [.ref b47])), (b47, .inl (c 2, 4 * 40, .inr (.inl z0J))), (a56, .inl (c 1, 40, .inl (fun j => zB (z0B j))))] H := hP
  have hD : va_D A [(d, .inr (0, [.ref a8, .ref a14, .ref a28, .ref a41, .ref a56, .int (zI 0), .int (zI 0)])), (a8, .inl (c 0, 255, .inl (fun j => zI ((z0N j : Nat) : Int)))), (a14, .inr (3, [.ref b21])), (b21, .inl (c 2, 4 * 255, .inr (.inl z0J))), (a28, .inr (3, [.ref b34])), (b34, .inl (c 2, 4 * 40, .inr (.inl z0J))), (a41, .inr (3, [.ref b47])), (b47, .inl (c 2, 4 * 40, .inr (.inl z0J))), (a56, .inl (c 1, 40, .inl (fun j => zB (z0B j))))] := hD
  subst hQ
  refine W.widen (k := 8) (n := 1638) (by omega) (by omega) ?_
  exact W.vret hx hb hr (fun t9 ht hW => ⟨⟨(a8, a14, b21, a28, b34, a41, b47, a56), rfl, trivial, by show va_P _ _ _ t9.heap; rw [ht]; exact hP.sub [0, 1, 2, 3, 4, 5, 6, 7, 8] rfl, by exact hD.sub [0, 1, 2, 3, 4, 5, 6, 7, 8] (by decide) rfl⟩, hS.F ht⟩) hS.2.2 d_Dr_init_61

def rm_readingInit : Room := { frames := 2, cells := 3, slots := 5005, locals := 42 }
set_option maxHeartbeats 4000000 in
set_option maxRecDepth 100000 in
/-- Reading() -/
theorem c_readingInit (l : Launch) (D : va_G) (c : Nat → ClassId) (rd : Nat) (sz : Nat)  : Met l y_Re_init w_Re_init rm_readingInit (va_Pc [.ref rd] (fun U => (U.heap.size = sz ∧ va_P D vwCl [(rd, .inr (2, [.null, .null, .null, .int (zI 0)]))] U.heap ∧ va_D (fun _ => True) [(rd, .inr (2, [.null, .null, .null, .int (zI 0)]))]) ∧ zK D c U)) (va_Qv (fun (u : Nat × Nat × Nat) => True) (fun (u : Nat × Nat × Nat) t9 => va_P D vwCl [(rd, .inr (2, [.ref u.1, .ref u.2.1, .null, .int (zI 0)])), (u.1, .inl (c 0, 1000, .inl (fun j => zI ((z0N j : Nat) : Int)))), (u.2.1, .inr (3, [.ref u.2.2])), (u.2.2, .inl (c 2, 4 * 1001, .inr (.inl z0J)))] t9.heap ∧ va_D (va_A [(rd, .inr (2, [.null, .null, .null, .int (zI 0)]))] sz) [(rd, .inr (2, [.ref u.1, .ref u.2.1, .null, .int (zI 0)])), (u.1, .inl (c 0, 1000, .inl (fun j => zI ((z0N j : Nat) : Int)))), (u.2.1, .inr (3, [.ref u.2.2])), (u.2.2, .inl (c 2, 4 * 1001, .inr (.inl z0J)))]) (va_A [(rd, .inr (2, [.null, .null, .null, .int (zI 0)]))] sz)) 3 5005 (va_A [(rd, .inr (2, [.null, .null, .null, .int (zI 0)]))] sz) := by
  refine Met.ofW (cc := b_Re_init) (maxL := 1) (ret := none) (by decide) rfl ?_
  intro p e s m args below meth c0 s₁ B hml hv
  obtain ⟨rfl, ⟨hsz, hP, hD0⟩, hKN⟩ := hv
  have hK := hKN.1
  have hN := hKN.2
  have hx := B.exec
  have hb := B.bytes
  have hr := B.returns
  have hts := atoms_spec (ws := w_Re_init) B.pre
  have hw : ∀ {w : Cond}, w ∈ ALLW → w.before _ s = true := fun h => hts _ (List.mem_cons_of_mem _ h)
  have hown : s.vm.findClass R_Re = some m.cls := findClass_of_methodNamed B.named
  have hlocks := B.notSynchronized
  have hin : meth.name = "<init>" := (name_of_methodNamed B.named B.method).1
  subst hsz
  have hD := hD0.self (sz := s.heap.size)
  generalize hAe : va_A [(rd, .inr (2, [.null, .null, .null, .int (zI 0)]))] s.heap.size = A at hD ⊢
  have hA : ∀ q : Nat, s.heap.size ≤ q → A q := fun q h => by rw [← hAe]; exact Or.inr h
  have hS : va_S A s.heap s.heap [] := va_S.rf
  have hP : va_P D vwCl [(rd, .inr (2, [.null, .null, .null, .int (zI 0)]))] s.heap := hP
  have hl := lv_entry ([.ref rd]) (n := 1) (Nat.le_of_ble_eq_true rfl)
  rw [lg_entry_eq]
  generalize (lg_sl ([.ref rd]) ++ List.replicate (1 - (lg_sl ([.ref rd])).length) Slot.unset).toArray = ls at hl ⊢
  have hl : lv_has ls 1 [(0, .ref rd)] := hl
  generalize hQ : MQ below _ _ _ _ _ _ = Q
  refine lv_aload_n hx hb d_Re_init_0 rfl (lv_at hl 0 rfl) ?_
  refine W.objInit hx hb hown (hw k_Re_m3) (hw k_i_ob) (hw k_c_ob) rfl (by rw [hml]; exact hl.1) rfl d_Re_init_1 (Nat.le_of_ble_eq_true rfl) (Nat.le_of_ble_eq_true rfl) ?_
  refine W.eq (g2 := F0 m 4 ls []) rfl ?_
  refine lv_aload_n hx hb d_Re_init_4 rfl (lv_at hl 0 rfl) ?_
  refine lv_sipush (v := zI 1000) hx hb d_Re_init_5 (by decide) ?_
  refine z_newa (atype := .int) hx hb (hw k_a_int) rfl (fun _ h => h) hK hP hD hS hA 0 rfl (1000) (a0 := (1000, .inl (fun j => zI ((z0N j : Nat) : Int)))) (z_defU _) (by omega) (by omega) (by show 1000 * 4 ≤ _; omega) (Nat.le_of_ble_eq_true rfl) (Nat.le_of_ble_eq_true rfl) d_Re_init_8 (fun a8 H hP hD hS => ?_)
  have hP : va_P D vwCl [(rd, .inr (2, [.null, .null, .null, .int (zI 0)])), (a8, .inl (c 0, 1000, .inl (fun j => zI ((z0N j : Nat) : Int))))] H := hP
  have hD : va_D A [(rd, .inr (2, [.null, .null, .null, .int (zI 0)])), (a8, .inl (c 0, 1000, .inl (fun j => zI ((z0N j : Nat) : Int))))] := hD
  refine W.widen (k := 1) (n := 1000) (by omega) (by omega) ?_
  refine va_putF (D := D) (ci := 2) (v := .ref a8) (ty := .array .int) (C := R_Re) (T := T_Re) (N := 4) hx hb hts (fun w h => List.mem_cons_of_mem _ (inA_Re w h)) ty_Re tyok_Re nm_Re hown hK hP hD hS 0 rfl rfl 0 (by decide) (hw k_Re_f9) (fun _ h9 => h9) rfl hin rfl (by decide +kernel) rfl rfl (Nat.le_of_ble_eq_true rfl) d_Re_init_10 (fun H locs hP hD hS => ?_)
  have hP : va_P D vwCl [(rd, .inr (2, [.ref a8, .null, .null, .int (zI 0)])), (a8, .inl (c 0, 1000, .inl (fun j => zI ((z0N j : Nat) : Int))))] H := hP
  have hD : va_D A [(rd, .inr (2, [.ref a8, .null, .null, .int (zI 0)])), (a8, .inl (c 0, 1000, .inl (fun j => zI ((z0N j : Nat) : Int))))] := hD
  refine lv_aload_n hx hb d_Re_init_13 rfl (lv_at hl 0 rfl) ?_
  refine va_new (ci := 3) (fs := [.null]) (C := R_Se) (T := T_Se) (N := 1) hx hb hts (fun w h => List.mem_cons_of_mem _ (inA_Se w h)) ty_Se tyok_Se hown (hw k_Re_c15) (hw k_o_Se) (hw k_n_Se) hK hP hD hS hA rfl (fun j hj => by rcases (show j = 0 by omega) with rfl <;> rfl) (Nat.le_of_ble_eq_true rfl) (Nat.le_of_ble_eq_true rfl) d_Re_init_14 (fun a14 H hP hD hS => ?_)
  have hP : va_P D vwCl [(rd, .inr (2, [.ref a8, .null, .null, .int (zI 0)])), (a8, .inl (c 0, 1000, .inl (fun j => zI ((z0N j : Nat) : Int)))), (a14, .inr (3, [.null]))] H := hP
  have hD : va_D A [(rd, .inr (2, [.ref a8, .null, .null, .int (zI 0)])), (a8, .inl (c 0, 1000, .inl (fun j => zI ((z0N j : Nat) : Int)))), (a14, .inr (3, [.null]))] := hD
  refine W.widen (k := 2) (n := 1001) (by omega) (by omega) ?_
  refine lv_dup hx hb d_Re_init_17 rfl ?_
  refine lv_sipush (v := zI 1001) hx hb d_Re_init_18 (by decide) ?_
  have hPc : va_P D vwCl [(a14, .inr (3, [.null]))] H := hP.sub (ws' := [(a14, .inr (3, [.null]))]) [2] rfl
  have hDc : va_D A [(a14, .inr (3, [.null]))] := hD.sub (ws' := [(a14, .inr (3, [.null]))]) [2] (by decide) rfl
  have hDt : va_D (fun _ => True) [(a14, .inr (3, [.null]))] := hDc.weaken (fun _ _ _ _ => trivial)
  have hFc := va_free (wc := [(a14, .inr (3, [.null]))]) hD hS hA [2] rfl
  refine va_callv (va_runI (rm := (rm_setsInit 4004)) (As := [.int (zI 1001)]) (rest := [.ref a14, .ref rd]) ⟨hx, hb, hml, hown, hts⟩ (c_setsInit l D c a14 1001 4004 H.size (by omega) (by omega)) (cwI 1 hts (gW k_c_Se_init) rfl rfl rfl (hw k_n_Se) (hw k_Re_m17) (hw k_i_Se_init) rfl (by decide +kernel) ⟨Nat.le_of_ble_eq_true rfl, Nat.le_of_ble_eq_true rfl⟩) ⟨zblindA, fun U hU hW => ⟨rfl, ⟨by rw [hU], by rw [hU]; exact hPc, hDt⟩, hKN.moved hW⟩⟩ rfl rfl hl.1 rfl (lv_room (Nat.le_of_ble_eq_true rfl)) d_Re_init_21 ⟨Nat.le_of_ble_eq_true rfl, Nat.le_of_ble_eq_true rfl⟩) hS (fun q _ h => hFc q h) hFc (fun u t9 H1 locs ht hvm hp_2 hB hz1 hk1 hS => ?_)
  obtain ⟨b21, rfl⟩ : ∃ z, z = u := ⟨_, rfl⟩
  have hp_2 : True := hp_2
  obtain ⟨hP1, hD1⟩ := hB
  rw [ht] at hP1
  obtain ⟨hP, hD⟩ := va_join (wr := [(rd, .inr (2, [.ref a8, .null, .null, .int (zI 0)])), (a8, .inl (c 0, 1000, .inl (fun j => zI ((z0N j : Nat) : Int))))]) (w1 := [(a14, .inr (3, [.ref b21])), (b21, .inl (c 2, 4 * 1001, .inr (.inl z0J)))]) hP hD [2] [0, 1] rfl rfl (by decide) (by decide) hk1 hFc hP1 hD1
  generalize H1 = H at hP hS ⊢
  have hP : va_P D vwCl [(rd, .inr (2, [.ref a8, .null, .null, .int (zI 0)])), (a8, .inl (c 0, 1000, .inl (fun j => zI ((z0N j : Nat) : Int)))), (a14, .inr (3, [.ref b21])), (b21, .inl (c 2, 4 * 1001, .inr (.inl z0J)))] H := hP.sub [0, 1, 2, 3] rfl
  have hD : va_D A [(rd, .inr (2, [.ref a8, .null, .null, .int (zI 0)])), (a8, .inl (c 0, 1000, .inl (fun j => zI ((z0N j : Nat) : Int)))), (a14, .inr (3, [.ref b21])), (b21, .inl (c 2, 4 * 1001, .inr (.inl z0J)))] := hD.sub [0, 1, 2, 3] (by decide) rfl
  refine W.widen (k := 3) (n := 5005) (by omega) (by omega) ?_
  refine va_putF (D := D) (ci := 2) (v := .ref a14) (ty := .object "RowModels$Sets") (C := R_Re) (T := T_Re) (N := 4) hx hb hts (fun w h => List.mem_cons_of_mem _ (inA_Re w h)) ty_Re tyok_Re nm_Re hown hK hP hD hS 0 rfl rfl 1 (by decide) (hw k_Re_f20) (fun _ h9 => h9) rfl hin rfl (by decide +kernel) rfl rfl (Nat.le_of_ble_eq_true rfl) d_Re_init_24 (fun H locs hP hD hS => ?_)
  have hP : va_P D vwCl [(rd, .inr (2, [.ref a8, .ref a14, .null, .int (zI 0)])), (a8, .inl (c 0, 1000, .inl (fun j => zI ((z0N j : Nat) : Int)))), (a14, .inr (3, [.ref b21])), (b21, .inl (c 2, 4 * 1001, .inr (.inl z0J)))] H := hP
  have hD : va_D A [(rd, .inr (2, [.ref a8, .ref a14, .null, .int (zI 0)])), (a8, .inl (c 0, 1000, .inl (fun j => zI ((z0N j : Nat) : Int)))), (a14, .inr (3, [.ref b21])), (b21, .inl (c 2, 4 * 1001, .inr (.inl z0J)))] := hD
  subst hQ
  refine W.widen (k := 3) (n := 5005) (by omega) (by omega) ?_
  exact W.vret hx hb hr (fun t9 ht hW => ⟨⟨(a8, a14, b21), rfl, trivial, by show va_P _ _ _ t9.heap; rw [ht]; exact hP.sub [0, 1, 2, 3] rfl, by exact hD.sub [0, 1, 2, 3] (by decide) rfl⟩, hS.F ht⟩) hS.2.2 d_Re_init_27

def rm_modelInit : Room := { frames := 5, cells := 0, slots := 0, locals := 111 }
set_option maxHeartbeats 4000000 in
set_option maxRecDepth 100000 in
/-- Model(entries, comes) -/
theorem c_modelInit (l : Launch) (D : va_G) (c : Nat → ClassId) (mo : Nat) (me : Nat) (ms : Nat) (msw : Nat) (en : Nat → Nat) (ne : Nat) (mf : Nat → Int64) (hne : ne ≤ 255) (hen : ∀ j, j < ne → en j < 300000) : Met l y_Mo_init w_Mo_init rm_modelInit (va_Pc [.ref mo, .ref me, .ref ms] (fun U => (va_P D vwCl [(mo, .inr (1, [.null, .null, .int (zB false)])), (me, .inl (c 0, ne, .inl (fun j => zI ((en j : Nat) : Int)))), (ms, .inr (3, [.ref msw])), (msw, .inl (c 2, 4 * (ne + 1), .inr (.inl mf)))] U.heap ∧ va_D (fun _ => True) [(mo, .inr (1, [.null, .null, .int (zB false)])), (me, .inl (c 0, ne, .inl (fun j => zI ((en j : Nat) : Int)))), (ms, .inr (3, [.ref msw])), (msw, .inl (c 2, 4 * (ne + 1), .inr (.inl mf)))]) ∧ zK D c U)) (va_Qv (fun (u : Unit) => True) (fun (u : Unit) t9 => va_P D vwCl [(mo, .inr (1, [.ref me, .ref ms, .int (zB (!twA en mf ne (ne + 1)))])), (me, .inl (c 0, ne, .inl (fun j => zI ((en j : Nat) : Int)))), (ms, .inr (3, [.ref msw])), (msw, .inl (c 2, 4 * (ne + 1), .inr (.inl mf)))] t9.heap) (zA [(mo, .inr (1, [.null, .null, .int (zB false)])), (me, .inl (c 0, ne, .inl (fun j => zI ((en j : Nat) : Int)))), (ms, .inr (3, [.ref msw])), (msw, .inl (c 2, 4 * (ne + 1), .inr (.inl mf)))])) 0 0 (zA [(mo, .inr (1, [.null, .null, .int (zB false)])), (me, .inl (c 0, ne, .inl (fun j => zI ((en j : Nat) : Int)))), (ms, .inr (3, [.ref msw])), (msw, .inl (c 2, 4 * (ne + 1), .inr (.inl mf)))]) := by
  refine Met.ofW (cc := b_Mo_init) (maxL := 3) (ret := none) (by decide) rfl ?_
  intro p e s m args below meth c0 s₁ B hml hv
  obtain ⟨rfl, ⟨hP, hD0⟩, hKN⟩ := hv
  have hK := hKN.1
  have hN := hKN.2
  have hx := B.exec
  have hb := B.bytes
  have hr := B.returns
  have hts := atoms_spec (ws := w_Mo_init) B.pre
  have hw : ∀ {w : Cond}, w ∈ ALLW → w.before _ s = true := fun h => hts _ (List.mem_cons_of_mem _ h)
  have hown : s.vm.findClass R_Mo = some m.cls := findClass_of_methodNamed B.named
  have hlocks := B.notSynchronized
  have hin : meth.name = "<init>" := (name_of_methodNamed B.named B.method).1
  have hD : va_D (zA [(mo, .inr (1, [.null, .null, .int (zB false)])), (me, .inl (c 0, ne, .inl (fun j => zI ((en j : Nat) : Int)))), (ms, .inr (3, [.ref msw])), (msw, .inl (c 2, 4 * (ne + 1), .inr (.inl mf)))]) [(mo, .inr (1, [.null, .null, .int (zB false)])), (me, .inl (c 0, ne, .inl (fun j => zI ((en j : Nat) : Int)))), (ms, .inr (3, [.ref msw])), (msw, .inl (c 2, 4 * (ne + 1), .inr (.inl mf)))] := ⟨hD0.1, fun k q h => List.mem_map.mpr ⟨q, List.mem_of_getElem? h, rfl⟩⟩
  generalize hAe : zA [(mo, .inr (1, [.null, .null, .int (zB false)])), (me, .inl (c 0, ne, .inl (fun j => zI ((en j : Nat) : Int)))), (ms, .inr (3, [.ref msw])), (msw, .inl (c 2, 4 * (ne + 1), .inr (.inl mf)))] = A at hD ⊢
  have hS : va_S A s.heap s.heap [] := va_S.rf
  have hP : va_P D vwCl [(mo, .inr (1, [.null, .null, .int (zB false)])), (me, .inl (c 0, ne, .inl (fun j => zI ((en j : Nat) : Int)))), (ms, .inr (3, [.ref msw])), (msw, .inl (c 2, 4 * (ne + 1), .inr (.inl mf)))] s.heap := hP
  have hl := lv_entry ([.ref mo, .ref me, .ref ms]) (n := 3) (Nat.le_of_ble_eq_true rfl)
  rw [lg_entry_eq]
  generalize (lg_sl ([.ref mo, .ref me, .ref ms]) ++ List.replicate (3 - (lg_sl ([.ref mo, .ref me, .ref ms])).length) Slot.unset).toArray = ls at hl ⊢
  have hl : lv_has ls 3 [(0, .ref mo), (1, .ref me), (2, .ref ms)] := hl
  generalize hQ : MQ below _ _ _ _ _ _ = Q
  refine lv_aload_n hx hb d_Mo_init_0 rfl (lv_at hl 0 rfl) ?_
  refine W.objInit hx hb hown (hw k_Mo_m3) (hw k_i_ob) (hw k_c_ob) rfl (by rw [hml]; exact hl.1) rfl d_Mo_init_1 (Nat.le_of_ble_eq_true rfl) (Nat.le_of_ble_eq_true rfl) ?_
  refine W.eq (g2 := F0 m 4 ls []) rfl ?_
  refine lv_aload_n hx hb d_Mo_init_4 rfl (lv_at hl 0 rfl) ?_
  refine lv_aload_n hx hb d_Mo_init_5 rfl (lv_at hl 1 rfl) ?_
  refine va_putF (D := D) (ci := 1) (v := .ref me) (ty := .array .int) (C := R_Mo) (T := T_Mo) (N := 3) hx hb hts (fun w h => List.mem_cons_of_mem _ (inA_Mo w h)) ty_Mo tyok_Mo nm_Mo hown hK hP hD hS 0 rfl rfl 0 (by decide) (hw k_Mo_f9) (fun _ h9 => h9) rfl hin rfl (by decide +kernel) rfl rfl (Nat.le_of_ble_eq_true rfl) d_Mo_init_6 (fun H locs hP hD hS => ?_)
  have hP : va_P D vwCl [(mo, .inr (1, [.ref me, .null, .int (zB false)])), (me, .inl (c 0, ne, .inl (fun j => zI ((en j : Nat) : Int)))), (ms, .inr (3, [.ref msw])), (msw, .inl (c 2, 4 * (ne + 1), .inr (.inl mf)))] H := hP
  have hD : va_D A [(mo, .inr (1, [.ref me, .null, .int (zB false)])), (me, .inl (c 0, ne, .inl (fun j => zI ((en j : Nat) : Int)))), (ms, .inr (3, [.ref msw])), (msw, .inl (c 2, 4 * (ne + 1), .inr (.inl mf)))] := hD
  refine lv_aload_n hx hb d_Mo_init_9 rfl (lv_at hl 0 rfl) ?_
  refine lv_aload_n hx hb d_Mo_init_10 rfl (lv_at hl 2 rfl) ?_
  refine va_putF (D := D) (ci := 1) (v := .ref ms) (ty := .object "RowModels$Sets") (C := R_Mo) (T := T_Mo) (N := 3) hx hb hts (fun w h => List.mem_cons_of_mem _ (inA_Mo w h)) ty_Mo tyok_Mo nm_Mo hown hK hP hD hS 0 rfl rfl 1 (by decide) (hw k_Mo_f15) (fun _ h9 => h9) rfl hin rfl (by decide +kernel) rfl rfl (Nat.le_of_ble_eq_true rfl) d_Mo_init_11 (fun H locs hP hD hS => ?_)
  have hP : va_P D vwCl [(mo, .inr (1, [.ref me, .ref ms, .int (zB false)])), (me, .inl (c 0, ne, .inl (fun j => zI ((en j : Nat) : Int)))), (ms, .inr (3, [.ref msw])), (msw, .inl (c 2, 4 * (ne + 1), .inr (.inl mf)))] H := hP
  have hD : va_D A [(mo, .inr (1, [.ref me, .ref ms, .int (zB false)])), (me, .inl (c 0, ne, .inl (fun j => zI ((en j : Nat) : Int)))), (ms, .inr (3, [.ref msw])), (msw, .inl (c 2, 4 * (ne + 1), .inr (.inl mf)))] := hD
  refine lv_aload_n hx hb d_Mo_init_14 rfl (lv_at hl 0 rfl) ?_
  refine lv_aload_n hx hb d_Mo_init_15 rfl (lv_at hl 1 rfl) ?_
  refine lv_aload_n hx hb d_Mo_init_16 rfl (lv_at hl 2 rfl) ?_
  have hPc : va_P D vwCl [(me, .inl (c 0, ne, .inl (fun j => zI ((en j : Nat) : Int)))), (ms, .inr (3, [.ref msw])), (msw, .inl (c 2, 4 * (ne + 1), .inr (.inl mf)))] H := hP.sub (ws' := [(me, .inl (c 0, ne, .inl (fun j => zI ((en j : Nat) : Int)))), (ms, .inr (3, [.ref msw])), (msw, .inl (c 2, 4 * (ne + 1), .inr (.inl mf)))]) [1, 2, 3] rfl
  refine vp_callSi (va_runS (rm := rm_hasTwinsAnywhere) (As := [.ref me, .ref ms]) (rest := [.ref mo]) ⟨hx, hb, hml, hown, hts⟩ (c_hasTwinsAnywhere l D c me ms msw en ne mf (by omega) hen) (va_cwS 2 hts (gWS k_Mo_m19 k_s_Mo_hasTwinsAnywhere k_n_Mo k_c_Mo_hasTwinsAnywhere) rfl rfl rfl (by decide +kernel) ⟨Nat.le_of_ble_eq_true rfl, Nat.le_of_ble_eq_true rfl⟩) ⟨zblind, fun U hU hW => ⟨rfl, by rw [hU]; exact hPc, hKN.moved hW⟩⟩ rfl rfl hl.1 rfl (lv_room (Nat.le_of_ble_eq_true rfl)) d_Mo_init_17 ⟨Nat.zero_le _, Nat.zero_le _⟩).run (fun r hr_1 => ?_)
  subst hr_1
  refine z_ifne_B (tgt := 27) hx hb d_Mo_init_20 (by decide) (fun hc_20 => ?_) (fun hc_20 => ?_)
  · refine lv_iconst (v := zI 0) hx hb d_Mo_init_27 (by decide) ?_
    refine z_top (v2 := .int (zB false)) (congrArg Value.int (by decide)) ?_
    refine va_putF (D := D) (ci := 1) (v := .int (zB false)) (ty := .boolean) (C := R_Mo) (T := T_Mo) (N := 3) hx hb hts (fun w h => List.mem_cons_of_mem _ (inA_Mo w h)) ty_Mo tyok_Mo nm_Mo hown hK hP hD hS 0 rfl rfl 2 (by decide) (hw k_Mo_f23) (fun _ h9 => h9) rfl hin rfl (by decide +kernel) (z_narB _) (z_fitB _) (Nat.le_of_ble_eq_true rfl) d_Mo_init_28 (fun H locs hP hD hS => ?_)
    have hP : va_P D vwCl [(mo, .inr (1, [.ref me, .ref ms, .int (zB false)])), (me, .inl (c 0, ne, .inl (fun j => zI ((en j : Nat) : Int)))), (ms, .inr (3, [.ref msw])), (msw, .inl (c 2, 4 * (ne + 1), .inr (.inl mf)))] H := hP
    have hD : va_D A [(mo, .inr (1, [.ref me, .ref ms, .int (zB false)])), (me, .inl (c 0, ne, .inl (fun j => zI ((en j : Nat) : Int)))), (ms, .inr (3, [.ref msw])), (msw, .inl (c 2, 4 * (ne + 1), .inr (.inl mf)))] := hD
    subst hQ
    exact W.vret hx hb hr (fun t9 ht hW => ⟨⟨(), rfl, trivial, by show va_P _ _ _ t9.heap; rw [ht]; rw [show (!twA en mf ne (ne + 1)) = false by rw [hc_20]; rfl]; exact hP⟩, hS.F ht⟩) hS.2.2 d_Mo_init_31
  · refine lv_iconst (v := zI 1) hx hb d_Mo_init_23 (by decide) ?_
    refine lv_goto (tgt := 28) hx hb d_Mo_init_24 (by decide) ?_
    refine z_top (v2 := .int (zB true)) (congrArg Value.int (by decide)) ?_
    refine va_putF (D := D) (ci := 1) (v := .int (zB true)) (ty := .boolean) (C := R_Mo) (T := T_Mo) (N := 3) hx hb hts (fun w h => List.mem_cons_of_mem _ (inA_Mo w h)) ty_Mo tyok_Mo nm_Mo hown hK hP hD hS 0 rfl rfl 2 (by decide) (hw k_Mo_f23) (fun _ h9 => h9) rfl hin rfl (by decide +kernel) (z_narB _) (z_fitB _) (Nat.le_of_ble_eq_true rfl) d_Mo_init_28 (fun H locs hP hD hS => ?_)
    have hP : va_P D vwCl [(mo, .inr (1, [.ref me, .ref ms, .int (zB true)])), (me, .inl (c 0, ne, .inl (fun j => zI ((en j : Nat) : Int)))), (ms, .inr (3, [.ref msw])), (msw, .inl (c 2, 4 * (ne + 1), .inr (.inl mf)))] H := hP
    have hD : va_D A [(mo, .inr (1, [.ref me, .ref ms, .int (zB true)])), (me, .inl (c 0, ne, .inl (fun j => zI ((en j : Nat) : Int)))), (ms, .inr (3, [.ref msw])), (msw, .inl (c 2, 4 * (ne + 1), .inr (.inl mf)))] := hD
    subst hQ
    exact W.vret hx hb hr (fun t9 ht hW => ⟨⟨(), rfl, trivial, by show va_P _ _ _ t9.heap; rw [ht]; rw [show (!twA en mf ne (ne + 1)) = true by rw [hc_20]; rfl]; exact hP⟩, hS.F ht⟩) hS.2.2 d_Mo_init_31

def rm_sort : Room := { frames := 0, cells := 0, slots := 0, locals := 0 }
set_option maxHeartbeats 4000000 in
set_option maxRecDepth 100000 in
/-- Model.sort -/
theorem c_sort (l : Launch) (D : va_G) (c : Nat → ClassId) (me : Nat) (ne : Nat) (en : Nat → Nat) (hne : ne ≤ 255) (hen : ∀ j, j < ne → en j < 300000) : Met l y_Mo_sort w_Mo_sort rm_sort (va_Pc [.ref me] (fun U => (va_P D vwCl [(me, .inl (c 0, ne, .inl (fun j => zI ((en j : Nat) : Int))))] U.heap ∧ va_D (fun _ => True) [(me, .inl (c 0, ne, .inl (fun j => zI ((en j : Nat) : Int))))]) ∧ zK D c U)) (va_Qv (fun (u : (Nat → Nat)) => srt en u ne) (fun (u : (Nat → Nat)) t9 => va_P D vwCl [(me, .inl (c 0, ne, .inl (fun j => zI ((u j : Nat) : Int))))] t9.heap) (zA [(me, .inl (c 0, ne, .inl (fun j => zI ((en j : Nat) : Int))))])) 0 0 (zA [(me, .inl (c 0, ne, .inl (fun j => zI ((en j : Nat) : Int))))]) := by
  refine Met.ofW (cc := b_Mo_sort) (maxL := 4) (ret := none) (by decide) rfl ?_
  intro p e s m args below meth c0 s₁ B hml hv
  obtain ⟨rfl, ⟨hP, hD0⟩, hKN⟩ := hv
  have hK := hKN.1
  have hN := hKN.2
  have hx := B.exec
  have hb := B.bytes
  have hr := B.returns
  have hts := atoms_spec (ws := w_Mo_sort) B.pre
  have hw : ∀ {w : Cond}, w ∈ ALLW → w.before _ s = true := fun h => hts _ (List.mem_cons_of_mem _ h)
  have hown : s.vm.findClass R_Mo = some m.cls := findClass_of_methodNamed B.named
  have hlocks := B.notSynchronized
  have hD : va_D (zA [(me, .inl (c 0, ne, .inl (fun j => zI ((en j : Nat) : Int))))]) [(me, .inl (c 0, ne, .inl (fun j => zI ((en j : Nat) : Int))))] := ⟨hD0.1, fun k q h => List.mem_map.mpr ⟨q, List.mem_of_getElem? h, rfl⟩⟩
  generalize hAe : zA [(me, .inl (c 0, ne, .inl (fun j => zI ((en j : Nat) : Int))))] = A at hD ⊢
  have hS : va_S A s.heap s.heap [] := va_S.rf
  have hP : va_P D vwCl [(me, .inl (c 0, ne, .inl (fun j => zI ((en j : Nat) : Int))))] s.heap := hP
  have hl := lv_entry ([.ref me]) (n := 4) (Nat.le_of_ble_eq_true rfl)
  rw [lg_entry_eq]
  generalize (lg_sl ([.ref me]) ++ List.replicate (4 - (lg_sl ([.ref me])).length) Slot.unset).toArray = ls at hl ⊢
  have hl : lv_has ls 4 [(0, .ref me)] := hl
  generalize hQ : MQ below _ _ _ _ _ _ = Q
  refine lv_iconst (v := zI 1) hx hb d_Mo_sort_0 (by decide) ?_
  refine lv_istore_n (lv' := [(1, .int (zI 1)), (0, .ref me)]) hx hb d_Mo_sort_1 rfl hl (by decide) rfl (fun ls hl => ?_)
  have lp_2 : ∀ (k_ : Nat) (i : Nat) (ar : Nat → Nat), ne - i < k_ → (1 ≤ i ∧ i ≤ 256) → (∀ x y, x < y → y < i → ar x ≤ ar y) → (prm en ar ne) → ∀ (H : Heap) (locs : List Loc), va_P D vwCl [(me, .inl (c 0, ne, .inl (fun j => zI ((ar j : Nat) : Int))))] H → va_D A [(me, .inl (c 0, ne, .inl (fun j => zI ((ar j : Nat) : Int))))] → va_S A s.heap H locs → ∀ ls : Array Slot, lv_has ls 4 [(1, .int (zI ((i : Nat) : Int))), (0, .ref me)] → W p l e (headSpec w_Mo_sort rm_sort).room s m ([.ref me] : List Value).toArray below meth c0 H locs 0 0 Q (F0 m 2 ls []) := by
    intro k_
    induction k_ with
    | zero => intro i ar hk_; exact absurd hk_ (Nat.not_lt_zero _)
    | succ k_ ih_2 =>
      intro i ar hk_ hi hs_ hpm H locs hP hD hS ls hl
      refine lv_iload_n hx hb d_Mo_sort_2 rfl (lv_at hl 0 rfl) ?_
      refine lv_aload_n hx hb d_Mo_sort_3 rfl (lv_at hl 1 rfl) ?_
      refine z_alen hx hb hK hP 0 0 rfl rfl d_Mo_sort_4 ?_
      refine z_top (v2 := .int (zI ((ne : Nat) : Int))) rfl ?_
      refine z_icmp_ge (tgt := 51) hx hb (by omega) d_Mo_sort_5 (by decide) (fun hc_5 => ?_) (fun hc_5 => ?_)
      · subst hQ
        exact W.vret hx hb hr (fun t9 ht hW => ⟨⟨ar, rfl, ⟨fun x y h1 h2 => hs_ x y h1 (by omega), hpm⟩, by show va_P _ _ _ t9.heap; rw [ht]; exact hP⟩, hS.F ht⟩) hS.2.2 d_Mo_sort_51
      · have hbi := prm_lt hen hpm i (by omega)
        refine lv_aload_n hx hb d_Mo_sort_8 rfl (lv_at hl 1 rfl) ?_
        refine lv_iload_n hx hb d_Mo_sort_9 rfl (lv_at hl 0 rfl) ?_
        refine z_uald hx hb hK hP 0 0 rfl rfl (i) (by omega) (by omega) (by omega) d_Mo_sort_10 ?_
        refine lv_istore_n (lv' := [(2, .int (zI ((ar i : Nat) : Int))), (1, .int (zI ((i : Nat) : Int))), (0, .ref me)]) hx hb d_Mo_sort_11 rfl hl (by decide) rfl (fun ls hl => ?_)
        refine lv_iload_n hx hb d_Mo_sort_12 rfl (lv_at hl 1 rfl) ?_
        refine lv_istore_n (lv' := [(3, .int (zI ((i : Nat) : Int))), (2, .int (zI ((ar i : Nat) : Int))), (1, .int (zI ((i : Nat) : Int))), (0, .ref me)]) hx hb d_Mo_sort_13 rfl hl (by decide) rfl (fun ls hl => ?_)
        have lp_14 : ∀ (k_ : Nat) (at_ : Nat) (br : Nat → Nat), at_ < k_ → (at_ ≤ i) → (insI br i at_ (ar i)) → (prm en (va_up br at_ (ar i)) ne) → ∀ (H : Heap) (locs : List Loc), va_P D vwCl [(me, .inl (c 0, ne, .inl (fun j => zI ((br j : Nat) : Int))))] H → va_D A [(me, .inl (c 0, ne, .inl (fun j => zI ((br j : Nat) : Int))))] → va_S A s.heap H locs → ∀ ls : Array Slot, lv_has ls 4 [(3, .int (zI ((at_ : Nat) : Int))), (2, .int (zI ((ar i : Nat) : Int))), (1, .int (zI ((i : Nat) : Int))), (0, .ref me)] → W p l e (headSpec w_Mo_sort rm_sort).room s m ([.ref me] : List Value).toArray below meth c0 H locs 0 0 Q (F0 m 14 ls []) := by
          intro k_
          induction k_ with
          | zero => intro at_ br hk_; exact absurd hk_ (Nat.not_lt_zero _)
          | succ k_ ih_14 =>
            intro at_ br hk_ hat hin hpm2 H locs hP hD hS ls hl
            refine lv_iload_n hx hb d_Mo_sort_14 rfl (lv_at hl 0 rfl) ?_
            refine z_if_le (tgt := 41) hx hb (by omega) d_Mo_sort_15 (by decide) (fun hc_15 => ?_) (fun hc_15 => ?_)
            · have he_ : at_ = 0 ∨ br (at_ - 1) ≤ ar i := by first | exact Or.inl (by omega) | exact Or.inr (by omega)
              refine lv_aload_n hx hb d_Mo_sort_41 rfl (lv_at hl 3 rfl) ?_
              refine lv_iload_n hx hb d_Mo_sort_42 rfl (lv_at hl 0 rfl) ?_
              refine lv_iload_n hx hb d_Mo_sort_43 rfl (lv_at hl 1 rfl) ?_
              refine z_uast hx hb hK hP hD hS 0 0 rfl rfl (at_) (by omega) (by omega) (by omega) d_Mo_sort_44 (fun H locs hP hD hS => ?_)
              have hP : va_P D vwCl [(me, .inl (c 0, ne, .inl (fun j => zI (((va_up br at_ (ar i)) j : Nat) : Int))))] H := hP
              have hD : va_D A [(me, .inl (c 0, ne, .inl (fun j => zI (((va_up br at_ (ar i)) j : Nat) : Int))))] := hD
              refine lv_iinc (v := zI ((i + 1 : Nat) : Int)) (lv' := [(1, .int (zI ((i + 1 : Nat) : Int))), (3, .int (zI ((at_ : Nat) : Int))), (2, .int (zI ((ar i : Nat) : Int))), (0, .ref me)]) hx hb d_Mo_sort_45 hl (k := 2) rfl (z_incN _ 1) (by decide) rfl (fun ls hl => ?_)
              refine lv_goto (tgt := 2) hx hb d_Mo_sort_48 (by decide) ?_
              exact ih_2 (i + 1) (va_up br at_ (ar i)) (by omega) (by omega) (ins_end (by omega) hin he_) hpm2 _ _ hP hD hS _ (lv_sub hl [0, 3] rfl)
            · have hba := prm_lt1 hen hpm2 (at_ - 1) (by omega) (by omega)
              refine lv_aload_n hx hb d_Mo_sort_18 rfl (lv_at hl 3 rfl) ?_
              refine lv_iload_n hx hb d_Mo_sort_19 rfl (lv_at hl 0 rfl) ?_
              refine lv_iconst (v := zI 1) hx hb d_Mo_sort_20 (by decide) ?_
              refine z_isub hx hb d_Mo_sort_21 ?_
              refine z_uald hx hb hK hP 0 0 rfl rfl (at_ - 1) (by omega) (by omega) (by omega) d_Mo_sort_22 ?_
              refine lv_iload_n hx hb d_Mo_sort_23 rfl (lv_at hl 1 rfl) ?_
              refine z_icmp_le (tgt := 41) hx hb (by omega) d_Mo_sort_24 (by decide) (fun hc_24 => ?_) (fun hc_24 => ?_)
              · have he_ : at_ = 0 ∨ br (at_ - 1) ≤ ar i := by first | exact Or.inl (by omega) | exact Or.inr (by omega)
                refine lv_aload_n hx hb d_Mo_sort_41 rfl (lv_at hl 3 rfl) ?_
                refine lv_iload_n hx hb d_Mo_sort_42 rfl (lv_at hl 0 rfl) ?_
                refine lv_iload_n hx hb d_Mo_sort_43 rfl (lv_at hl 1 rfl) ?_
                refine z_uast hx hb hK hP hD hS 0 0 rfl rfl (at_) (by omega) (by omega) (by omega) d_Mo_sort_44 (fun H locs hP hD hS => ?_)
                have hP : va_P D vwCl [(me, .inl (c 0, ne, .inl (fun j => zI (((va_up br at_ (ar i)) j : Nat) : Int))))] H := hP
                have hD : va_D A [(me, .inl (c 0, ne, .inl (fun j => zI (((va_up br at_ (ar i)) j : Nat) : Int))))] := hD
                refine lv_iinc (v := zI ((i + 1 : Nat) : Int)) (lv' := [(1, .int (zI ((i + 1 : Nat) : Int))), (3, .int (zI ((at_ : Nat) : Int))), (2, .int (zI ((ar i : Nat) : Int))), (0, .ref me)]) hx hb d_Mo_sort_45 hl (k := 2) rfl (z_incN _ 1) (by decide) rfl (fun ls hl => ?_)
                refine lv_goto (tgt := 2) hx hb d_Mo_sort_48 (by decide) ?_
                exact ih_2 (i + 1) (va_up br at_ (ar i)) (by omega) (by omega) (ins_end (by omega) hin he_) hpm2 _ _ hP hD hS _ (lv_sub hl [0, 3] rfl)
              · refine lv_aload_n hx hb d_Mo_sort_27 rfl (lv_at hl 3 rfl) ?_
                refine lv_iload_n hx hb d_Mo_sort_28 rfl (lv_at hl 0 rfl) ?_
                refine lv_aload_n hx hb d_Mo_sort_29 rfl (lv_at hl 3 rfl) ?_
                refine lv_iload_n hx hb d_Mo_sort_30 rfl (lv_at hl 0 rfl) ?_
                refine lv_iconst (v := zI 1) hx hb d_Mo_sort_31 (by decide) ?_
                refine z_isub hx hb d_Mo_sort_32 ?_
                refine z_uald hx hb hK hP 0 0 rfl rfl (at_ - 1) (by omega) (by omega) (by omega) d_Mo_sort_33 ?_
                refine z_uast hx hb hK hP hD hS 0 0 rfl rfl (at_) (by omega) (by omega) (by omega) d_Mo_sort_34 (fun H locs hP hD hS => ?_)
                have hP : va_P D vwCl [(me, .inl (c 0, ne, .inl (fun j => zI (((va_up br at_ (br (at_ - 1))) j : Nat) : Int))))] H := hP
                have hD : va_D A [(me, .inl (c 0, ne, .inl (fun j => zI (((va_up br at_ (br (at_ - 1))) j : Nat) : Int))))] := hD
                refine lv_iinc (v := zI (((at_ : Nat) : Int) + (-1))) (lv' := [(3, .int (zI (((at_ : Nat) : Int) + (-1)))), (2, .int (zI ((ar i : Nat) : Int))), (1, .int (zI ((i : Nat) : Int))), (0, .ref me)]) hx hb d_Mo_sort_35 hl (k := 0) rfl (zI_add _ _) (by decide) rfl (fun ls hl => ?_)
                refine lv_goto (tgt := 14) hx hb d_Mo_sort_38 (by decide) ?_
                exact ih_14 (at_ - 1) (va_up br at_ (br (at_ - 1))) (by omega) (by omega) (ins_step1 (by omega) (by omega) hin (by omega)) (ins_prm1 (by omega) (by omega) hpm2) _ _ hP hD hS _ (by rw [show ((at_ - 1 : Nat) : Int) = ((at_ : Nat) : Int) + (-1) by omega]; exact lv_sub hl [0, 1, 2, 3] rfl)
        exact lp_14 _ i ar (Nat.lt_succ_self _) (by omega) (ins_start hs_) (prm_self hpm) _ _ hP hD hS _ (lv_sub hl [0, 1, 2, 3] rfl)
  exact lp_2 _ 1 en (Nat.lt_succ_self _) (by omega) (fun x y h1 h2 => by omega) (prm_rf _ _) _ _ hP hD hS _ (lv_sub hl [0, 1] rfl)

def rm_toModel : Room := { frames := 6, cells := 4, slots := 1283, locals := 133 }
set_option maxHeartbeats 4000000 in
set_option maxRecDepth 100000 in
/-- Draft.toModel -/
theorem c_toModel (l : Launch) (D : va_G) (c : Nat → ClassId) (d : Nat) (dn : Nat) (df : Nat) (dfw : Nat) (di : Nat) (diw : Nat) (dl : Nat) (dlw : Nat) (dm : Nat) (nm : Nat → Nat) (fw : Nat → Int64) (iw : Nat → Int64) (lw : Nat → Int64) (mb : Nat → Bool) (nc : Nat) (pp : Nat) (sz : Nat) (hc : nc ≤ 255) (hnm : ∀ j, j < nc → nm j < 1001) : Met l y_Dr_toModel w_Dr_toModel rm_toModel (va_Pc [.ref d] (fun U => (U.heap.size = sz ∧ va_P D vwCl [(d, .inr (0, [.ref dn, .ref df, .ref di, .ref dl, .ref dm, .int (zI ((nc : Nat) : Int)), .int (zI ((pp : Nat) : Int))])), (dn, .inl (c 0, 255, .inl (fun j => zI ((nm j : Nat) : Int)))), (df, .inr (3, [.ref dfw])), (dfw, .inl (c 2, 4 * 255, .inr (.inl fw))), (di, .inr (3, [.ref diw])), (diw, .inl (c 2, 4 * 40, .inr (.inl iw))), (dl, .inr (3, [.ref dlw])), (dlw, .inl (c 2, 4 * 40, .inr (.inl lw))), (dm, .inl (c 1, 40, .inl (fun j => zB (mb j))))] U.heap ∧ va_D (fun _ => True) [(d, .inr (0, [.ref dn, .ref df, .ref di, .ref dl, .ref dm, .int (zI ((nc : Nat) : Int)), .int (zI ((pp : Nat) : Int))])), (dn, .inl (c 0, 255, .inl (fun j => zI ((nm j : Nat) : Int)))), (df, .inr (3, [.ref dfw])), (dfw, .inl (c 2, 4 * 255, .inr (.inl fw))), (di, .inr (3, [.ref diw])), (diw, .inl (c 2, 4 * 40, .inr (.inl iw))), (dl, .inr (3, [.ref dlw])), (dlw, .inl (c 2, 4 * 40, .inr (.inl lw))), (dm, .inl (c 1, 40, .inl (fun j => zB (mb j))))]) ∧ zK D c U)) (va_Qr (fun (u : Nat × Nat × Nat × (Nat → Nat)) => srt (tmN nm nc) u.2.2.2 nc) (fun (u : Nat × Nat × Nat × (Nat → Nat)) (a : Nat) t9 => va_P D vwCl [(d, .inr (0, [.ref dn, .ref df, .ref di, .ref dl, .ref dm, .int (zI ((nc : Nat) : Int)), .int (zI ((pp : Nat) : Int))])), (dn, .inl (c 0, 255, .inl (fun j => zI ((nm j : Nat) : Int)))), (df, .inr (3, [.ref dfw])), (dfw, .inl (c 2, 4 * 255, .inr (.inl fw))), (di, .inr (3, [.ref diw])), (diw, .inl (c 2, 4 * 40, .inr (.inl iw))), (dl, .inr (3, [.ref dlw])), (dlw, .inl (c 2, 4 * 40, .inr (.inl lw))), (dm, .inl (c 1, 40, .inl (fun j => zB (mb j)))), (a, .inr (1, [.ref u.1, .ref u.2.1, .int (zB (!twA u.2.2.2 (tmE fw iw lw (mb 0) nc) nc (nc + 1)))])), (u.1, .inl (c 0, nc, .inl (fun j => zI ((u.2.2.2 j : Nat) : Int)))), (u.2.1, .inr (3, [.ref u.2.2.1])), (u.2.2.1, .inl (c 2, 4 * (nc + 1), .inr (.inl (tmE fw iw lw (mb 0) nc))))] t9.heap ∧ va_D (va_A [(d, .inr (0, [.ref dn, .ref df, .ref di, .ref dl, .ref dm, .int (zI ((nc : Nat) : Int)), .int (zI ((pp : Nat) : Int))])), (dn, .inl (c 0, 255, .inl (fun j => zI ((nm j : Nat) : Int)))), (df, .inr (3, [.ref dfw])), (dfw, .inl (c 2, 4 * 255, .inr (.inl fw))), (di, .inr (3, [.ref diw])), (diw, .inl (c 2, 4 * 40, .inr (.inl iw))), (dl, .inr (3, [.ref dlw])), (dlw, .inl (c 2, 4 * 40, .inr (.inl lw))), (dm, .inl (c 1, 40, .inl (fun j => zB (mb j))))] sz) [(d, .inr (0, [.ref dn, .ref df, .ref di, .ref dl, .ref dm, .int (zI ((nc : Nat) : Int)), .int (zI ((pp : Nat) : Int))])), (dn, .inl (c 0, 255, .inl (fun j => zI ((nm j : Nat) : Int)))), (df, .inr (3, [.ref dfw])), (dfw, .inl (c 2, 4 * 255, .inr (.inl fw))), (di, .inr (3, [.ref diw])), (diw, .inl (c 2, 4 * 40, .inr (.inl iw))), (dl, .inr (3, [.ref dlw])), (dlw, .inl (c 2, 4 * 40, .inr (.inl lw))), (dm, .inl (c 1, 40, .inl (fun j => zB (mb j)))), (a, .inr (1, [.ref u.1, .ref u.2.1, .int (zB (!twA u.2.2.2 (tmE fw iw lw (mb 0) nc) nc (nc + 1)))])), (u.1, .inl (c 0, nc, .inl (fun j => zI ((u.2.2.2 j : Nat) : Int)))), (u.2.1, .inr (3, [.ref u.2.2.1])), (u.2.2.1, .inl (c 2, 4 * (nc + 1), .inr (.inl (tmE fw iw lw (mb 0) nc))))]) (va_A [(d, .inr (0, [.ref dn, .ref df, .ref di, .ref dl, .ref dm, .int (zI ((nc : Nat) : Int)), .int (zI ((pp : Nat) : Int))])), (dn, .inl (c 0, 255, .inl (fun j => zI ((nm j : Nat) : Int)))), (df, .inr (3, [.ref dfw])), (dfw, .inl (c 2, 4 * 255, .inr (.inl fw))), (di, .inr (3, [.ref diw])), (diw, .inl (c 2, 4 * 40, .inr (.inl iw))), (dl, .inr (3, [.ref dlw])), (dlw, .inl (c 2, 4 * 40, .inr (.inl lw))), (dm, .inl (c 1, 40, .inl (fun j => zB (mb j))))] sz)) 4 1283 (va_A [(d, .inr (0, [.ref dn, .ref df, .ref di, .ref dl, .ref dm, .int (zI ((nc : Nat) : Int)), .int (zI ((pp : Nat) : Int))])), (dn, .inl (c 0, 255, .inl (fun j => zI ((nm j : Nat) : Int)))), (df, .inr (3, [.ref dfw])), (dfw, .inl (c 2, 4 * 255, .inr (.inl fw))), (di, .inr (3, [.ref diw])), (diw, .inl (c 2, 4 * 40, .inr (.inl iw))), (dl, .inr (3, [.ref dlw])), (dlw, .inl (c 2, 4 * 40, .inr (.inl lw))), (dm, .inl (c 1, 40, .inl (fun j => zB (mb j))))] sz) := by
  refine Met.ofW (cc := b_Dr_toModel) (maxL := 4) (ret := (some (.object "RowModels$Model"))) (by decide) rfl ?_
  intro p e s m args below meth c0 s₁ B hml hv
  obtain ⟨rfl, ⟨hsz, hP, hD0⟩, hKN⟩ := hv
  have hK := hKN.1
  have hN := hKN.2
  have hx := B.exec
  have hb := B.bytes
  have hr := B.returns
  have hts := atoms_spec (ws := w_Dr_toModel) B.pre
  have hw : ∀ {w : Cond}, w ∈ ALLW → w.before _ s = true := fun h => hts _ (List.mem_cons_of_mem _ h)
  have hown : s.vm.findClass R_Dr = some m.cls := findClass_of_methodNamed B.named
  have hlocks := B.notSynchronized
  subst hsz
  have hD := hD0.self (sz := s.heap.size)
  generalize hAe : va_A [(d, .inr (0, [.ref dn, .ref df, .ref di, .ref dl, .ref dm, .int (zI ((nc : Nat) : Int)), .int (zI ((pp : Nat) : Int))])), (dn, .inl (c 0, 255, .inl (fun j => zI ((nm j : Nat) : Int)))), (df, .inr (3, [.ref dfw])), (dfw, .inl (c 2, 4 * 255, .inr (.inl fw))), (di, .inr (3, [.ref diw])), (diw, .inl (c 2, 4 * 40, .inr (.inl iw))), (dl, .inr (3, [.ref dlw])), (dlw, .inl (c 2, 4 * 40, .inr (.inl lw))), (dm, .inl (c 1, 40, .inl (fun j => zB (mb j))))] s.heap.size = A at hD ⊢
  have hA : ∀ q : Nat, s.heap.size ≤ q → A q := fun q h => by rw [← hAe]; exact Or.inr h
  have hS : va_S A s.heap s.heap [] := va_S.rf
  have hP : va_P D vwCl [(d, .inr (0, [.ref dn, .ref df, .ref di, .ref dl, .ref dm, .int (zI ((nc : Nat) : Int)), .int (zI ((pp : Nat) : Int))])), (dn, .inl (c 0, 255, .inl (fun j => zI ((nm j : Nat) : Int)))), (df, .inr (3, [.ref dfw])), (dfw, .inl (c 2, 4 * 255, .inr (.inl fw))), (di, .inr (3, [.ref diw])), (diw, .inl (c 2, 4 * 40, .inr (.inl iw))), (dl, .inr (3, [.ref dlw])), (dlw, .inl (c 2, 4 * 40, .inr (.inl lw))), (dm, .inl (c 1, 40, .inl (fun j => zB (mb j))))] s.heap := hP
  have hl := lv_entry ([.ref d]) (n := 4) (Nat.le_of_ble_eq_true rfl)
  rw [lg_entry_eq]
  generalize (lg_sl ([.ref d]) ++ List.replicate (4 - (lg_sl ([.ref d])).length) Slot.unset).toArray = ls at hl ⊢
  have hl : lv_has ls 4 [(0, .ref d)] := hl
  generalize hQ : MQ below _ _ _ _ _ _ = Q
  refine lv_aload_n hx hb d_Dr_toModel_0 rfl (lv_at hl 0 rfl) ?_
  refine va_get (D := D) (ci := 0) (v := .int (zI ((nc : Nat) : Int))) (C := R_Dr) (T := T_Dr) (N := 7) hx hb hts (fun w h => List.mem_cons_of_mem _ (inA_Dr w h)) hown hK hP 0 rfl rfl 5 (by decide) (hw k_Dr_f38) (fun _ h9 => h9) rfl d_Dr_toModel_1 ?_
  refine lv_iconst (v := zI 0) hx hb d_Dr_toModel_4 (by decide) ?_
  refine va_mmax hx hb (by rw [hml]; exact hl.1.symm) hown (hw k_Dr_m63) (hw k_s_mx) (hw k_n_mx) (hw k_c_mx) (Nat.le_of_ble_eq_true rfl) (Nat.le_of_ble_eq_true rfl) (Nat.le_of_ble_eq_true rfl) (Nat.le_of_ble_eq_true rfl) d_Dr_toModel_5 ?_
  refine z_top (v2 := .int (zI ((nc : Nat) : Int))) (congrArg Value.int (z_max0 _ (by omega))) ?_
  refine z_newa (atype := .int) hx hb (hw k_a_int) rfl (fun _ h => h) hK hP hD hS hA 0 rfl (nc) (a0 := (nc, .inl (fun j => zI ((z0N j : Nat) : Int)))) (z_defU _) (by omega) (by omega) (by show nc * 4 ≤ _; omega) (Nat.le_of_ble_eq_true rfl) (show 0 + nc ≤ 1283 by omega) d_Dr_toModel_8 (fun a8 H hP hD hS => ?_)
  have hP : va_P D vwCl [(d, .inr (0, [.ref dn, .ref df, .ref di, .ref dl, .ref dm, .int (zI ((nc : Nat) : Int)), .int (zI ((pp : Nat) : Int))])), (dn, .inl (c 0, 255, .inl (fun j => zI ((nm j : Nat) : Int)))), (df, .inr (3, [.ref dfw])), (dfw, .inl (c 2, 4 * 255, .inr (.inl fw))), (di, .inr (3, [.ref diw])), (diw, .inl (c 2, 4 * 40, .inr (.inl iw))), (dl, .inr (3, [.ref dlw])), (dlw, .inl (c 2, 4 * 40, .inr (.inl lw))), (dm, .inl (c 1, 40, .inl (fun j => zB (mb j)))), (a8, .inl (c 0, nc, .inl (fun j => zI ((z0N j : Nat) : Int))))] H := hP
  have hD : va_D A [(d, .inr (0, [.ref dn, .ref df, .ref di, .ref dl, .ref dm, .int (zI ((nc : Nat) : Int)), .int (zI ((pp : Nat) : Int))])), (dn, .inl (c 0, 255, .inl (fun j => zI ((nm j : Nat) : Int)))), (df, .inr (3, [.ref dfw])), (dfw, .inl (c 2, 4 * 255, .inr (.inl fw))), (di, .inr (3, [.ref diw])), (diw, .inl (c 2, 4 * 40, .inr (.inl iw))), (dl, .inr (3, [.ref dlw])), (dlw, .inl (c 2, 4 * 40, .inr (.inl lw))), (dm, .inl (c 1, 40, .inl (fun j => zB (mb j)))), (a8, .inl (c 0, nc, .inl (fun j => zI ((z0N j : Nat) : Int))))] := hD
  refine W.widen (k := 1) (n := 255) (by omega) (by omega) ?_
  refine lv_astore_n (lv' := [(1, .ref a8), (0, .ref d)]) hx hb d_Dr_toModel_10 rfl hl (by decide) rfl (fun ls hl => ?_)
  refine va_new (ci := 3) (fs := [.null]) (C := R_Se) (T := T_Se) (N := 1) hx hb hts (fun w h => List.mem_cons_of_mem _ (inA_Se w h)) ty_Se tyok_Se hown (hw k_Dr_c15) (hw k_o_Se) (hw k_n_Se) hK hP hD hS hA rfl (fun j hj => by rcases (show j = 0 by omega) with rfl <;> rfl) (Nat.le_of_ble_eq_true rfl) (Nat.le_of_ble_eq_true rfl) d_Dr_toModel_11 (fun a11 H hP hD hS => ?_)
  have hP : va_P D vwCl [(d, .inr (0, [.ref dn, .ref df, .ref di, .ref dl, .ref dm, .int (zI ((nc : Nat) : Int)), .int (zI ((pp : Nat) : Int))])), (dn, .inl (c 0, 255, .inl (fun j => zI ((nm j : Nat) : Int)))), (df, .inr (3, [.ref dfw])), (dfw, .inl (c 2, 4 * 255, .inr (.inl fw))), (di, .inr (3, [.ref diw])), (diw, .inl (c 2, 4 * 40, .inr (.inl iw))), (dl, .inr (3, [.ref dlw])), (dlw, .inl (c 2, 4 * 40, .inr (.inl lw))), (dm, .inl (c 1, 40, .inl (fun j => zB (mb j)))), (a8, .inl (c 0, nc, .inl (fun j => zI ((z0N j : Nat) : Int)))), (a11, .inr (3, [.null]))] H := hP
  have hD : va_D A [(d, .inr (0, [.ref dn, .ref df, .ref di, .ref dl, .ref dm, .int (zI ((nc : Nat) : Int)), .int (zI ((pp : Nat) : Int))])), (dn, .inl (c 0, 255, .inl (fun j => zI ((nm j : Nat) : Int)))), (df, .inr (3, [.ref dfw])), (dfw, .inl (c 2, 4 * 255, .inr (.inl fw))), (di, .inr (3, [.ref diw])), (diw, .inl (c 2, 4 * 40, .inr (.inl iw))), (dl, .inr (3, [.ref dlw])), (dlw, .inl (c 2, 4 * 40, .inr (.inl lw))), (dm, .inl (c 1, 40, .inl (fun j => zB (mb j)))), (a8, .inl (c 0, nc, .inl (fun j => zI ((z0N j : Nat) : Int)))), (a11, .inr (3, [.null]))] := hD
  refine W.widen (k := 2) (n := 256) (by omega) (by omega) ?_
  refine lv_dup hx hb d_Dr_toModel_14 rfl ?_
  refine lv_aload_n hx hb d_Dr_toModel_15 rfl (lv_at hl 1 rfl) ?_
  refine va_get (D := D) (ci := 0) (v := .int (zI ((nc : Nat) : Int))) (C := R_Dr) (T := T_Dr) (N := 7) hx hb hts (fun w h => List.mem_cons_of_mem _ (inA_Dr w h)) hown hK hP 0 rfl rfl 5 (by decide) (hw k_Dr_f38) (fun _ h9 => h9) rfl d_Dr_toModel_16 ?_
  refine lv_iconst (v := zI 1) hx hb d_Dr_toModel_19 (by decide) ?_
  refine z_iadd hx hb d_Dr_toModel_20 ?_
  refine z_top (v2 := .int (zI ((nc + 1 : Nat) : Int))) (congrArg Value.int (congrArg zI (by omega))) ?_
  have hPc : va_P D vwCl [(a11, .inr (3, [.null]))] H := hP.sub (ws' := [(a11, .inr (3, [.null]))]) [10] rfl
  have hDc : va_D A [(a11, .inr (3, [.null]))] := hD.sub (ws' := [(a11, .inr (3, [.null]))]) [10] (by decide) rfl
  have hDt : va_D (fun _ => True) [(a11, .inr (3, [.null]))] := hDc.weaken (fun _ _ _ _ => trivial)
  have hFc := va_free (wc := [(a11, .inr (3, [.null]))]) hD hS hA [10] rfl
  refine va_callv (va_runI (rm := (rm_setsInit 1024)) (As := [.int (zI ((nc + 1 : Nat) : Int))]) (rest := [.ref a11]) ⟨hx, hb, hml, hown, hts⟩ (c_setsInit l D c a11 (nc + 1) 1024 H.size (by omega) (by omega)) (cwI 1 hts (gW k_c_Se_init) rfl rfl rfl (hw k_n_Se) (hw k_Dr_m17) (hw k_i_Se_init) rfl (by decide +kernel) ⟨Nat.le_of_ble_eq_true rfl, Nat.le_of_ble_eq_true rfl⟩) ⟨zblindA, fun U hU hW => ⟨rfl, ⟨by rw [hU], by rw [hU]; exact hPc, hDt⟩, hKN.moved hW⟩⟩ rfl rfl hl.1 rfl (lv_room (Nat.le_of_ble_eq_true rfl)) d_Dr_toModel_21 ⟨Nat.le_of_ble_eq_true rfl, Nat.le_of_ble_eq_true rfl⟩) hS (fun q _ h => hFc q h) hFc (fun u t9 H1 locs ht hvm hp_2 hB hz1 hk1 hS => ?_)
  obtain ⟨b21, rfl⟩ : ∃ z, z = u := ⟨_, rfl⟩
  have hp_2 : True := hp_2
  obtain ⟨hP1, hD1⟩ := hB
  rw [ht] at hP1
  obtain ⟨hP, hD⟩ := va_join (wr := [(d, .inr (0, [.ref dn, .ref df, .ref di, .ref dl, .ref dm, .int (zI ((nc : Nat) : Int)), .int (zI ((pp : Nat) : Int))])), (dn, .inl (c 0, 255, .inl (fun j => zI ((nm j : Nat) : Int)))), (df, .inr (3, [.ref dfw])), (dfw, .inl (c 2, 4 * 255, .inr (.inl fw))), (di, .inr (3, [.ref diw])), (diw, .inl (c 2, 4 * 40, .inr (.inl iw))), (dl, .inr (3, [.ref dlw])), (dlw, .inl (c 2, 4 * 40, .inr (.inl lw))), (dm, .inl (c 1, 40, .inl (fun j => zB (mb j)))), (a8, .inl (c 0, nc, .inl (fun j => zI ((z0N j : Nat) : Int))))]) (w1 := [(a11, .inr (3, [.ref b21])), (b21, .inl (c 2, 4 * (nc + 1), .inr (.inl z0J)))]) hP hD [10] [0, 1, 2, 3, 4, 5, 6, 7, 8, 9] rfl rfl (by decide) (by decide) hk1 hFc hP1 hD1
  generalize H1 = H at hP hS ⊢
  have hP : va_P D vwCl [(d, .inr (0, [.ref dn, .ref df, .ref di, .ref dl, .ref dm, .int (zI ((nc : Nat) : Int)), .int (zI ((pp : Nat) : Int))])), (dn, .inl (c 0, 255, .inl (fun j => zI ((nm j : Nat) : Int)))), (df, .inr (3, [.ref dfw])), (dfw, .inl (c 2, 4 * 255, .inr (.inl fw))), (di, .inr (3, [.ref diw])), (diw, .inl (c 2, 4 * 40, .inr (.inl iw))), (dl, .inr (3, [.ref dlw])), (dlw, .inl (c 2, 4 * 40, .inr (.inl lw))), (dm, .inl (c 1, 40, .inl (fun j => zB (mb j)))), (a8, .inl (c 0, nc, .inl (fun j => zI ((z0N j : Nat) : Int)))), (a11, .inr (3, [.ref b21])), (b21, .inl (c 2, 4 * (nc + 1), .inr (.inl z0J)))] H := hP.sub [0, 1, 2, 3, 4, 5, 6, 7, 8, 9, 10, 11] rfl
  have hD : va_D A [(d, .inr (0, [.ref dn, .ref df, .ref di, .ref dl, .ref dm, .int (zI ((nc : Nat) : Int)), .int (zI ((pp : Nat) : Int))])), (dn, .inl (c 0, 255, .inl (fun j => zI ((nm j : Nat) : Int)))), (df, .inr (3, [.ref dfw])), (dfw, .inl (c 2, 4 * 255, .inr (.inl fw))), (di, .inr (3, [.ref diw])), (diw, .inl (c 2, 4 * 40, .inr (.inl iw))), (dl, .inr (3, [.ref dlw])), (dlw, .inl (c 2, 4 * 40, .inr (.inl lw))), (dm, .inl (c 1, 40, .inl (fun j => zB (mb j)))), (a8, .inl (c 0, nc, .inl (fun j => zI ((z0N j : Nat) : Int)))), (a11, .inr (3, [.ref b21])), (b21, .inl (c 2, 4 * (nc + 1), .inr (.inl z0J)))] := hD.sub [0, 1, 2, 3, 4, 5, 6, 7, 8, 9, 10, 11] (by decide) rfl
  refine W.widen (k := 3) (n := 1280) (by omega) (by omega) ?_
  refine lv_astore_n (lv' := [(2, .ref a11), (1, .ref a8), (0, .ref d)]) hx hb d_Dr_toModel_24 rfl hl (by decide) rfl (fun ls hl => ?_)
  refine lv_iconst (v := zI 0) hx hb d_Dr_toModel_25 (by decide) ?_
  refine lv_istore_n (lv' := [(3, .int (zI 0)), (2, .ref a11), (1, .ref a8), (0, .ref d)]) hx hb d_Dr_toModel_26 rfl hl (by decide) rfl (fun ls hl => ?_)
  have lp_27 : ∀ (k_ : Nat) (v : Nat), nc - v < k_ → (v ≤ nc) → ∀ (H : Heap) (locs : List Loc), va_P D vwCl [(d, .inr (0, [.ref dn, .ref df, .ref di, .ref dl, .ref dm, .int (zI ((nc : Nat) : Int)), .int (zI ((pp : Nat) : Int))])), (dn, .inl (c 0, 255, .inl (fun j => zI ((nm j : Nat) : Int)))), (df, .inr (3, [.ref dfw])), (dfw, .inl (c 2, 4 * 255, .inr (.inl fw))), (di, .inr (3, [.ref diw])), (diw, .inl (c 2, 4 * 40, .inr (.inl iw))), (dl, .inr (3, [.ref dlw])), (dlw, .inl (c 2, 4 * 40, .inr (.inl lw))), (dm, .inl (c 1, 40, .inl (fun j => zB (mb j)))), (a8, .inl (c 0, nc, .inl (fun j => zI (((tmN nm v) j : Nat) : Int)))), (a11, .inr (3, [.ref b21])), (b21, .inl (c 2, 4 * (nc + 1), .inr (.inl (tmw fw lw v))))] H → va_D A [(d, .inr (0, [.ref dn, .ref df, .ref di, .ref dl, .ref dm, .int (zI ((nc : Nat) : Int)), .int (zI ((pp : Nat) : Int))])), (dn, .inl (c 0, 255, .inl (fun j => zI ((nm j : Nat) : Int)))), (df, .inr (3, [.ref dfw])), (dfw, .inl (c 2, 4 * 255, .inr (.inl fw))), (di, .inr (3, [.ref diw])), (diw, .inl (c 2, 4 * 40, .inr (.inl iw))), (dl, .inr (3, [.ref dlw])), (dlw, .inl (c 2, 4 * 40, .inr (.inl lw))), (dm, .inl (c 1, 40, .inl (fun j => zB (mb j)))), (a8, .inl (c 0, nc, .inl (fun j => zI (((tmN nm v) j : Nat) : Int)))), (a11, .inr (3, [.ref b21])), (b21, .inl (c 2, 4 * (nc + 1), .inr (.inl (tmw fw lw v))))] → va_S A s.heap H locs → ∀ ls : Array Slot, lv_has ls 4 [(3, .int (zI ((v : Nat) : Int))), (2, .ref a11), (1, .ref a8), (0, .ref d)] → W p l e (headSpec w_Dr_toModel rm_toModel).room s m ([.ref d] : List Value).toArray below meth c0 H locs 3 1280 Q (F0 m 27 ls []) := by
    intro k_
    induction k_ with
    | zero => intro v hk_; exact absurd hk_ (Nat.not_lt_zero _)
    | succ k_ ih_27 =>
      intro v hk_ hv H locs hP hD hS ls hl
      refine lv_iload_n hx hb d_Dr_toModel_27 rfl (lv_at hl 0 rfl) ?_
      refine lv_aload_n hx hb d_Dr_toModel_28 rfl (lv_at hl 2 rfl) ?_
      refine z_alen hx hb hK hP 9 0 rfl rfl d_Dr_toModel_29 ?_
      refine z_top (v2 := .int (zI ((nc : Nat) : Int))) rfl ?_
      refine z_icmp_ge (tgt := 91) hx hb (by omega) d_Dr_toModel_30 (by decide) (fun hc_30 => ?_) (fun hc_30 => ?_)
      · have e_ : v = nc := by omega
        rw [e_] at hP hD
        refine lv_aload_n hx hb d_Dr_toModel_91 rfl (lv_at hl 1 rfl) ?_
        refine lv_aload_n hx hb d_Dr_toModel_92 rfl (lv_at hl 3 rfl) ?_
        refine va_get (D := D) (ci := 0) (v := .int (zI ((nc : Nat) : Int))) (C := R_Dr) (T := T_Dr) (N := 7) hx hb hts (fun w h => List.mem_cons_of_mem _ (inA_Dr w h)) hown hK hP 0 rfl rfl 5 (by decide) (hw k_Dr_f38) (fun _ h9 => h9) rfl d_Dr_toModel_93 ?_
        refine lv_aload_n hx hb d_Dr_toModel_96 rfl (lv_at hl 3 rfl) ?_
        refine va_get (D := D) (ci := 0) (v := .ref di) (C := R_Dr) (T := T_Dr) (N := 7) hx hb hts (fun w h => List.mem_cons_of_mem _ (inA_Dr w h)) hown hK hP 0 rfl rfl 2 (by decide) (hw k_Dr_f24) (fun _ h9 => h9) rfl d_Dr_toModel_97 ?_
        refine lv_iconst (v := zI 0) hx hb d_Dr_toModel_100 (by decide) ?_
        have hPc : va_P D vwCl [(a11, .inr (3, [.ref b21])), (b21, .inl (c 2, 4 * (nc + 1), .inr (.inl (tmw fw lw nc)))), (di, .inr (3, [.ref diw])), (diw, .inl (c 2, 4 * 40, .inr (.inl iw)))] H := hP.sub (ws' := [(a11, .inr (3, [.ref b21])), (b21, .inl (c 2, 4 * (nc + 1), .inr (.inl (tmw fw lw nc)))), (di, .inr (3, [.ref diw])), (diw, .inl (c 2, 4 * 40, .inr (.inl iw)))]) [10, 11, 4, 5] rfl
        have hDc : va_D A [(a11, .inr (3, [.ref b21])), (b21, .inl (c 2, 4 * (nc + 1), .inr (.inl (tmw fw lw nc)))), (di, .inr (3, [.ref diw])), (diw, .inl (c 2, 4 * 40, .inr (.inl iw)))] := hD.sub (ws' := [(a11, .inr (3, [.ref b21])), (b21, .inl (c 2, 4 * (nc + 1), .inr (.inl (tmw fw lw nc)))), (di, .inr (3, [.ref diw])), (diw, .inl (c 2, 4 * 40, .inr (.inl iw)))]) [10, 11, 4, 5] (by decide) rfl
        have hDt : va_D (fun _ => True) [(a11, .inr (3, [.ref b21])), (b21, .inl (c 2, 4 * (nc + 1), .inr (.inl (tmw fw lw nc)))), (di, .inr (3, [.ref diw])), (diw, .inl (c 2, 4 * 40, .inr (.inl iw)))] := hDc.weaken (fun _ _ _ _ => trivial)
        refine z_callv (S := Unit) (w1 := fun u => [(a11, .inr (3, [.ref b21])), (b21, .inl (c 2, 4 * (nc + 1), .inr (.inl (zor (tmw fw lw nc) nc iw 0)))), (di, .inr (3, [.ref diw])), (diw, .inl (c 2, 4 * 40, .inr (.inl iw)))]) (post := fun u => True) (wc := [(a11, .inr (3, [.ref b21])), (b21, .inl (c 2, 4 * (nc + 1), .inr (.inl (tmw fw lw nc)))), (di, .inr (3, [.ref diw])), (diw, .inl (c 2, 4 * 40, .inr (.inl iw)))]) [10, 11, 4, 5] rfl (fun _ => rfl) hP hD hS (va_runV (rm := rm_addAll) (As := [.int (zI ((nc : Nat) : Int)), .ref di, .int (zI 0)]) (rest := []) ⟨hx, hb, hml, hown, hts⟩ (c_addAll l D c a11 b21 (nc + 1) (tmw fw lw nc) nc di diw 40 iw 0 (by omega) (by omega) (by omega) (by omega)) (cwV 3 hts (gWV k_Dr_m55 k_i_Se_addAll k_v_Se_addAll k_n_Se k_c_Se_addAll) rfl rfl rfl (by decide +kernel) ⟨Nat.le_of_ble_eq_true rfl, Nat.le_of_ble_eq_true rfl⟩) ⟨zblindW, va_recv hK hPc (ci := 3) (q0 := 0) rfl rfl, fun U hU hW => ⟨rfl, ⟨by rw [hU]; exact hPc, hDt⟩, hKN.moved hW⟩⟩ rfl rfl hl.1 rfl (lv_room (Nat.le_of_ble_eq_true rfl)) d_Dr_toModel_101 ⟨Nat.le_of_ble_eq_true rfl, Nat.le_of_ble_eq_true rfl⟩) (fun u H locs hp_3 hP hD hS => ?_)
        have hP : va_P D vwCl [(d, .inr (0, [.ref dn, .ref df, .ref di, .ref dl, .ref dm, .int (zI ((nc : Nat) : Int)), .int (zI ((pp : Nat) : Int))])), (dn, .inl (c 0, 255, .inl (fun j => zI ((nm j : Nat) : Int)))), (df, .inr (3, [.ref dfw])), (dfw, .inl (c 2, 4 * 255, .inr (.inl fw))), (di, .inr (3, [.ref diw])), (diw, .inl (c 2, 4 * 40, .inr (.inl iw))), (dl, .inr (3, [.ref dlw])), (dlw, .inl (c 2, 4 * 40, .inr (.inl lw))), (dm, .inl (c 1, 40, .inl (fun j => zB (mb j)))), (a8, .inl (c 0, nc, .inl (fun j => zI (((tmN nm nc) j : Nat) : Int)))), (a11, .inr (3, [.ref b21])), (b21, .inl (c 2, 4 * (nc + 1), .inr (.inl (zor (tmw fw lw nc) nc iw 0))))] H := hP
        have hD : va_D A [(d, .inr (0, [.ref dn, .ref df, .ref di, .ref dl, .ref dm, .int (zI ((nc : Nat) : Int)), .int (zI ((pp : Nat) : Int))])), (dn, .inl (c 0, 255, .inl (fun j => zI ((nm j : Nat) : Int)))), (df, .inr (3, [.ref dfw])), (dfw, .inl (c 2, 4 * 255, .inr (.inl fw))), (di, .inr (3, [.ref diw])), (diw, .inl (c 2, 4 * 40, .inr (.inl iw))), (dl, .inr (3, [.ref dlw])), (dlw, .inl (c 2, 4 * 40, .inr (.inl lw))), (dm, .inl (c 1, 40, .inl (fun j => zB (mb j)))), (a8, .inl (c 0, nc, .inl (fun j => zI (((tmN nm nc) j : Nat) : Int)))), (a11, .inr (3, [.ref b21])), (b21, .inl (c 2, 4 * (nc + 1), .inr (.inl (zor (tmw fw lw nc) nc iw 0))))] := hD
        refine lv_aload_n hx hb d_Dr_toModel_104 rfl (lv_at hl 3 rfl) ?_
        refine va_get (D := D) (ci := 0) (v := .ref dm) (C := R_Dr) (T := T_Dr) (N := 7) hx hb hts (fun w h => List.mem_cons_of_mem _ (inA_Dr w h)) hown hK hP 0 rfl rfl 4 (by decide) (hw k_Dr_f30) (fun _ h9 => h9) rfl d_Dr_toModel_105 ?_
        refine lv_iconst (v := zI 0) hx hb d_Dr_toModel_108 (by decide) ?_
        refine z_zald hx hb hK hP 8 1 rfl rfl (0) (by omega) (by omega) (by omega) d_Dr_toModel_109 ?_
        refine z_ifeq_B (tgt := 124) hx hb d_Dr_toModel_110 (by decide) (fun hc_110 => ?_) (fun hc_110 => ?_)
        · refine lv_aload_n hx hb d_Dr_toModel_124 rfl (lv_at hl 2 rfl) ?_
          have hPc : va_P D vwCl [(a8, .inl (c 0, nc, .inl (fun j => zI (((tmN nm nc) j : Nat) : Int))))] H := hP.sub (ws' := [(a8, .inl (c 0, nc, .inl (fun j => zI (((tmN nm nc) j : Nat) : Int))))]) [9] rfl
          have hDc : va_D A [(a8, .inl (c 0, nc, .inl (fun j => zI (((tmN nm nc) j : Nat) : Int))))] := hD.sub (ws' := [(a8, .inl (c 0, nc, .inl (fun j => zI (((tmN nm nc) j : Nat) : Int))))]) [9] (by decide) rfl
          have hDt : va_D (fun _ => True) [(a8, .inl (c 0, nc, .inl (fun j => zI (((tmN nm nc) j : Nat) : Int))))] := hDc.weaken (fun _ _ _ _ => trivial)
          refine z_callv (S := (Nat → Nat)) (w1 := fun u => [(a8, .inl (c 0, nc, .inl (fun j => zI ((u j : Nat) : Int))))]) (post := fun u => srt (tmN nm nc) u nc) (wc := [(a8, .inl (c 0, nc, .inl (fun j => zI (((tmN nm nc) j : Nat) : Int))))]) [9] rfl (fun _ => rfl) hP hD hS (va_runS (rm := rm_sort) (As := [.ref a8]) (rest := []) ⟨hx, hb, hml, hown, hts⟩ (c_sort l D c a8 nc (tmN nm nc) (by omega) (fun j hj => by rw [tmN_at nm nc j hj]; have := hnm j hj; omega)) (va_cwS 1 hts (gWS k_Dr_m74 k_s_Mo_sort k_n_Mo k_c_Mo_sort) rfl rfl rfl (by decide +kernel) ⟨Nat.le_of_ble_eq_true rfl, Nat.le_of_ble_eq_true rfl⟩) ⟨zblindW, fun U hU hW => ⟨rfl, ⟨by rw [hU]; exact hPc, hDt⟩, hKN.moved hW⟩⟩ rfl rfl hl.1 rfl (lv_room (Nat.le_of_ble_eq_true rfl)) d_Dr_toModel_125 ⟨Nat.le_of_ble_eq_true rfl, Nat.le_of_ble_eq_true rfl⟩) (fun u H locs hso hP hD hS => ?_)
          obtain ⟨en2, rfl⟩ : ∃ z, z = u := ⟨_, rfl⟩
          have hso : srt (tmN nm nc) en2 nc := hso
          have hP : va_P D vwCl [(d, .inr (0, [.ref dn, .ref df, .ref di, .ref dl, .ref dm, .int (zI ((nc : Nat) : Int)), .int (zI ((pp : Nat) : Int))])), (dn, .inl (c 0, 255, .inl (fun j => zI ((nm j : Nat) : Int)))), (df, .inr (3, [.ref dfw])), (dfw, .inl (c 2, 4 * 255, .inr (.inl fw))), (di, .inr (3, [.ref diw])), (diw, .inl (c 2, 4 * 40, .inr (.inl iw))), (dl, .inr (3, [.ref dlw])), (dlw, .inl (c 2, 4 * 40, .inr (.inl lw))), (dm, .inl (c 1, 40, .inl (fun j => zB (mb j)))), (a8, .inl (c 0, nc, .inl (fun j => zI ((en2 j : Nat) : Int)))), (a11, .inr (3, [.ref b21])), (b21, .inl (c 2, 4 * (nc + 1), .inr (.inl (zor (tmw fw lw nc) nc iw 0))))] H := hP
          have hD : va_D A [(d, .inr (0, [.ref dn, .ref df, .ref di, .ref dl, .ref dm, .int (zI ((nc : Nat) : Int)), .int (zI ((pp : Nat) : Int))])), (dn, .inl (c 0, 255, .inl (fun j => zI ((nm j : Nat) : Int)))), (df, .inr (3, [.ref dfw])), (dfw, .inl (c 2, 4 * 255, .inr (.inl fw))), (di, .inr (3, [.ref diw])), (diw, .inl (c 2, 4 * 40, .inr (.inl iw))), (dl, .inr (3, [.ref dlw])), (dlw, .inl (c 2, 4 * 40, .inr (.inl lw))), (dm, .inl (c 1, 40, .inl (fun j => zB (mb j)))), (a8, .inl (c 0, nc, .inl (fun j => zI ((en2 j : Nat) : Int)))), (a11, .inr (3, [.ref b21])), (b21, .inl (c 2, 4 * (nc + 1), .inr (.inl (zor (tmw fw lw nc) nc iw 0))))] := hD
          refine va_new (ci := 1) (fs := [.null, .null, .int (zB false)]) (C := R_Mo) (T := T_Mo) (N := 3) hx hb hts (fun w h => List.mem_cons_of_mem _ (inA_Mo w h)) ty_Mo tyok_Mo hown (hw k_Dr_c70) (hw k_o_Mo) (hw k_n_Mo) hK hP hD hS hA rfl (fun j hj => by rcases (show j = 0 ∨ j = 1 ∨ j = 2 by omega) with rfl | rfl | rfl <;> rfl) (Nat.le_of_ble_eq_true rfl) (Nat.le_of_ble_eq_true rfl) d_Dr_toModel_128 (fun a128 H hP hD hS => ?_)
          have hP : va_P D vwCl [(d, .inr (0, [.ref dn, .ref df, .ref di, .ref dl, .ref dm, .int (zI ((nc : Nat) : Int)), .int (zI ((pp : Nat) : Int))])), (dn, .inl (c 0, 255, .inl (fun j => zI ((nm j : Nat) : Int)))), (df, .inr (3, [.ref dfw])), (dfw, .inl (c 2, 4 * 255, .inr (.inl fw))), (di, .inr (3, [.ref diw])), (diw, .inl (c 2, 4 * 40, .inr (.inl iw))), (dl, .inr (3, [.ref dlw])), (dlw, .inl (c 2, 4 * 40, .inr (.inl lw))), (dm, .inl (c 1, 40, .inl (fun j => zB (mb j)))), (a8, .inl (c 0, nc, .inl (fun j => zI ((en2 j : Nat) : Int)))), (a11, .inr (3, [.ref b21])), (b21, .inl (c 2, 4 * (nc + 1), .inr (.inl (zor (tmw fw lw nc) nc iw 0)))), (a128, .inr (1, [.null, .null, .int (zB false)]))] H := hP
          have hD : va_D A [(d, .inr (0, [.ref dn, .ref df, .ref di, .ref dl, .ref dm, .int (zI ((nc : Nat) : Int)), .int (zI ((pp : Nat) : Int))])), (dn, .inl (c 0, 255, .inl (fun j => zI ((nm j : Nat) : Int)))), (df, .inr (3, [.ref dfw])), (dfw, .inl (c 2, 4 * 255, .inr (.inl fw))), (di, .inr (3, [.ref diw])), (diw, .inl (c 2, 4 * 40, .inr (.inl iw))), (dl, .inr (3, [.ref dlw])), (dlw, .inl (c 2, 4 * 40, .inr (.inl lw))), (dm, .inl (c 1, 40, .inl (fun j => zB (mb j)))), (a8, .inl (c 0, nc, .inl (fun j => zI ((en2 j : Nat) : Int)))), (a11, .inr (3, [.ref b21])), (b21, .inl (c 2, 4 * (nc + 1), .inr (.inl (zor (tmw fw lw nc) nc iw 0)))), (a128, .inr (1, [.null, .null, .int (zB false)]))] := hD
          refine W.widen (k := 4) (n := 1283) (by omega) (by omega) ?_
          refine lv_dup hx hb d_Dr_toModel_131 rfl ?_
          refine lv_aload_n hx hb d_Dr_toModel_132 rfl (lv_at hl 2 rfl) ?_
          refine lv_aload_n hx hb d_Dr_toModel_133 rfl (lv_at hl 1 rfl) ?_
          have hPc : va_P D vwCl [(a128, .inr (1, [.null, .null, .int (zB false)])), (a8, .inl (c 0, nc, .inl (fun j => zI ((en2 j : Nat) : Int)))), (a11, .inr (3, [.ref b21])), (b21, .inl (c 2, 4 * (nc + 1), .inr (.inl (zor (tmw fw lw nc) nc iw 0))))] H := hP.sub (ws' := [(a128, .inr (1, [.null, .null, .int (zB false)])), (a8, .inl (c 0, nc, .inl (fun j => zI ((en2 j : Nat) : Int)))), (a11, .inr (3, [.ref b21])), (b21, .inl (c 2, 4 * (nc + 1), .inr (.inl (zor (tmw fw lw nc) nc iw 0))))]) [12, 9, 10, 11] rfl
          have hDc : va_D A [(a128, .inr (1, [.null, .null, .int (zB false)])), (a8, .inl (c 0, nc, .inl (fun j => zI ((en2 j : Nat) : Int)))), (a11, .inr (3, [.ref b21])), (b21, .inl (c 2, 4 * (nc + 1), .inr (.inl (zor (tmw fw lw nc) nc iw 0))))] := hD.sub (ws' := [(a128, .inr (1, [.null, .null, .int (zB false)])), (a8, .inl (c 0, nc, .inl (fun j => zI ((en2 j : Nat) : Int)))), (a11, .inr (3, [.ref b21])), (b21, .inl (c 2, 4 * (nc + 1), .inr (.inl (zor (tmw fw lw nc) nc iw 0))))]) [12, 9, 10, 11] (by decide) rfl
          have hDt : va_D (fun _ => True) [(a128, .inr (1, [.null, .null, .int (zB false)])), (a8, .inl (c 0, nc, .inl (fun j => zI ((en2 j : Nat) : Int)))), (a11, .inr (3, [.ref b21])), (b21, .inl (c 2, 4 * (nc + 1), .inr (.inl (zor (tmw fw lw nc) nc iw 0))))] := hDc.weaken (fun _ _ _ _ => trivial)
          refine z_callv (S := Unit) (w1 := fun u => [(a128, .inr (1, [.ref a8, .ref a11, .int (zB (!twA en2 (zor (tmw fw lw nc) nc iw 0) nc (nc + 1)))])), (a8, .inl (c 0, nc, .inl (fun j => zI ((en2 j : Nat) : Int)))), (a11, .inr (3, [.ref b21])), (b21, .inl (c 2, 4 * (nc + 1), .inr (.inl (zor (tmw fw lw nc) nc iw 0))))]) (post := fun u => True) (wc := [(a128, .inr (1, [.null, .null, .int (zB false)])), (a8, .inl (c 0, nc, .inl (fun j => zI ((en2 j : Nat) : Int)))), (a11, .inr (3, [.ref b21])), (b21, .inl (c 2, 4 * (nc + 1), .inr (.inl (zor (tmw fw lw nc) nc iw 0))))]) [12, 9, 10, 11] rfl (fun _ => rfl) hP hD hS (va_runI (rm := rm_modelInit) (As := [.ref a8, .ref a11]) (rest := [.ref a128]) ⟨hx, hb, hml, hown, hts⟩ (c_modelInit l D c a128 a8 a11 b21 en2 nc (zor (tmw fw lw nc) nc iw 0) (by omega) (fun j hj => prm_lt (fun j hj => by rw [tmN_at nm nc j hj]; have := hnm j hj; omega) hso.2 j hj)) (cwI 2 hts (gW k_c_Mo_init) rfl rfl rfl (hw k_n_Mo) (hw k_Dr_m78) (hw k_i_Mo_init) rfl (by decide +kernel) ⟨Nat.le_of_ble_eq_true rfl, Nat.le_of_ble_eq_true rfl⟩) ⟨zblindW, fun U hU hW => ⟨rfl, ⟨by rw [hU]; exact hPc, hDt⟩, hKN.moved hW⟩⟩ rfl rfl hl.1 rfl (lv_room (Nat.le_of_ble_eq_true rfl)) d_Dr_toModel_134 ⟨Nat.le_of_ble_eq_true rfl, Nat.le_of_ble_eq_true rfl⟩) (fun u H locs hp_5 hP hD hS => ?_)
          have hP : va_P D vwCl [(d, .inr (0, [.ref dn, .ref df, .ref di, .ref dl, .ref dm, .int (zI ((nc : Nat) : Int)), .int (zI ((pp : Nat) : Int))])), (dn, .inl (c 0, 255, .inl (fun j => zI ((nm j : Nat) : Int)))), (df, .inr (3, [.ref dfw])), (dfw, .inl (c 2, 4 * 255, .inr (.inl fw))), (di, .inr (3, [.ref diw])), (diw, .inl (c 2, 4 * 40, .inr (.inl iw))), (dl, .inr (3, [.ref dlw])), (dlw, .inl (c 2, 4 * 40, .inr (.inl lw))), (dm, .inl (c 1, 40, .inl (fun j => zB (mb j)))), (a8, .inl (c 0, nc, .inl (fun j => zI ((en2 j : Nat) : Int)))), (a11, .inr (3, [.ref b21])), (b21, .inl (c 2, 4 * (nc + 1), .inr (.inl (zor (tmw fw lw nc) nc iw 0)))), (a128, .inr (1, [.ref a8, .ref a11, .int (zB (!twA en2 (zor (tmw fw lw nc) nc iw 0) nc (nc + 1)))]))] H := hP
          have hD : va_D A [(d, .inr (0, [.ref dn, .ref df, .ref di, .ref dl, .ref dm, .int (zI ((nc : Nat) : Int)), .int (zI ((pp : Nat) : Int))])), (dn, .inl (c 0, 255, .inl (fun j => zI ((nm j : Nat) : Int)))), (df, .inr (3, [.ref dfw])), (dfw, .inl (c 2, 4 * 255, .inr (.inl fw))), (di, .inr (3, [.ref diw])), (diw, .inl (c 2, 4 * 40, .inr (.inl iw))), (dl, .inr (3, [.ref dlw])), (dlw, .inl (c 2, 4 * 40, .inr (.inl lw))), (dm, .inl (c 1, 40, .inl (fun j => zB (mb j)))), (a8, .inl (c 0, nc, .inl (fun j => zI ((en2 j : Nat) : Int)))), (a11, .inr (3, [.ref b21])), (b21, .inl (c 2, 4 * (nc + 1), .inr (.inl (zor (tmw fw lw nc) nc iw 0)))), (a128, .inr (1, [.ref a8, .ref a11, .int (zB (!twA en2 (zor (tmw fw lw nc) nc iw 0) nc (nc + 1)))]))] := hD
          subst hQ
          refine W.widen (k := 4) (n := 1283) (by omega) (by omega) ?_
          exact W.aret (v := .ref a128) hx hb hr (Or.inl ⟨_, rfl⟩) (Or.inr ⟨_, rfl⟩) (fun t9 ht hW => ⟨⟨(a8, a11, b21, en2), _, rfl, hso, by show va_P _ _ _ t9.heap; rw [ht]; rw [tmE_F (nn := mb 0) hc_110]; exact hP.sub [0, 1, 2, 3, 4, 5, 6, 7, 8, 12, 9, 10, 11] rfl, by rw [tmE_F (nn := mb 0) hc_110]; exact hD.sub [0, 1, 2, 3, 4, 5, 6, 7, 8, 12, 9, 10, 11] (by decide) rfl⟩, hS.F ht⟩) hS.2.2 d_Dr_toModel_137
        · refine lv_aload_n hx hb d_Dr_toModel_113 rfl (lv_at hl 1 rfl) ?_
          refine lv_aload_n hx hb d_Dr_toModel_114 rfl (lv_at hl 3 rfl) ?_
          refine va_get (D := D) (ci := 0) (v := .int (zI ((nc : Nat) : Int))) (C := R_Dr) (T := T_Dr) (N := 7) hx hb hts (fun w h => List.mem_cons_of_mem _ (inA_Dr w h)) hown hK hP 0 rfl rfl 5 (by decide) (hw k_Dr_f38) (fun _ h9 => h9) rfl d_Dr_toModel_115 ?_
          refine lv_sipush (v := zI 255) hx hb d_Dr_toModel_118 (by decide) ?_
          have hPc : va_P D vwCl [(a11, .inr (3, [.ref b21])), (b21, .inl (c 2, 4 * (nc + 1), .inr (.inl (zor (tmw fw lw nc) nc iw 0))))] H := hP.sub (ws' := [(a11, .inr (3, [.ref b21])), (b21, .inl (c 2, 4 * (nc + 1), .inr (.inl (zor (tmw fw lw nc) nc iw 0))))]) [10, 11] rfl
          have hDc : va_D A [(a11, .inr (3, [.ref b21])), (b21, .inl (c 2, 4 * (nc + 1), .inr (.inl (zor (tmw fw lw nc) nc iw 0))))] := hD.sub (ws' := [(a11, .inr (3, [.ref b21])), (b21, .inl (c 2, 4 * (nc + 1), .inr (.inl (zor (tmw fw lw nc) nc iw 0))))]) [10, 11] (by decide) rfl
          have hDt : va_D (fun _ => True) [(a11, .inr (3, [.ref b21])), (b21, .inl (c 2, 4 * (nc + 1), .inr (.inl (zor (tmw fw lw nc) nc iw 0))))] := hDc.weaken (fun _ _ _ _ => trivial)
          refine z_callv (S := Unit) (w1 := fun u => [(a11, .inr (3, [.ref b21])), (b21, .inl (c 2, 4 * (nc + 1), .inr (.inl (zadd (zor (tmw fw lw nc) nc iw 0) nc 255))))]) (post := fun u => True) (wc := [(a11, .inr (3, [.ref b21])), (b21, .inl (c 2, 4 * (nc + 1), .inr (.inl (zor (tmw fw lw nc) nc iw 0))))]) [10, 11] rfl (fun _ => rfl) hP hD hS (va_runV (rm := rm_add) (As := [.int (zI ((nc : Nat) : Int)), .int (zI 255)]) (rest := []) ⟨hx, hb, hml, hown, hts⟩ (c_add l D c a11 b21 (nc + 1) (zor (tmw fw lw nc) nc iw 0) nc 255 (by omega) (by omega) (by omega)) (cwV 2 hts (gWV k_Dr_m44 k_i_Se_add k_v_Se_add k_n_Se k_c_Se_add) rfl rfl rfl (by decide +kernel) ⟨Nat.le_of_ble_eq_true rfl, Nat.le_of_ble_eq_true rfl⟩) ⟨zblindW, va_recv hK hPc (ci := 3) (q0 := 0) rfl rfl, fun U hU hW => ⟨rfl, ⟨by rw [hU]; exact hPc, hDt⟩, hKN.moved hW⟩⟩ rfl rfl hl.1 rfl (lv_room (Nat.le_of_ble_eq_true rfl)) d_Dr_toModel_121 ⟨Nat.le_of_ble_eq_true rfl, Nat.le_of_ble_eq_true rfl⟩) (fun u H locs hp_6 hP hD hS => ?_)
          have hP : va_P D vwCl [(d, .inr (0, [.ref dn, .ref df, .ref di, .ref dl, .ref dm, .int (zI ((nc : Nat) : Int)), .int (zI ((pp : Nat) : Int))])), (dn, .inl (c 0, 255, .inl (fun j => zI ((nm j : Nat) : Int)))), (df, .inr (3, [.ref dfw])), (dfw, .inl (c 2, 4 * 255, .inr (.inl fw))), (di, .inr (3, [.ref diw])), (diw, .inl (c 2, 4 * 40, .inr (.inl iw))), (dl, .inr (3, [.ref dlw])), (dlw, .inl (c 2, 4 * 40, .inr (.inl lw))), (dm, .inl (c 1, 40, .inl (fun j => zB (mb j)))), (a8, .inl (c 0, nc, .inl (fun j => zI (((tmN nm nc) j : Nat) : Int)))), (a11, .inr (3, [.ref b21])), (b21, .inl (c 2, 4 * (nc + 1), .inr (.inl (zadd (zor (tmw fw lw nc) nc iw 0) nc 255))))] H := hP
          have hD : va_D A [(d, .inr (0, [.ref dn, .ref df, .ref di, .ref dl, .ref dm, .int (zI ((nc : Nat) : Int)), .int (zI ((pp : Nat) : Int))])), (dn, .inl (c 0, 255, .inl (fun j => zI ((nm j : Nat) : Int)))), (df, .inr (3, [.ref dfw])), (dfw, .inl (c 2, 4 * 255, .inr (.inl fw))), (di, .inr (3, [.ref diw])), (diw, .inl (c 2, 4 * 40, .inr (.inl iw))), (dl, .inr (3, [.ref dlw])), (dlw, .inl (c 2, 4 * 40, .inr (.inl lw))), (dm, .inl (c 1, 40, .inl (fun j => zB (mb j)))), (a8, .inl (c 0, nc, .inl (fun j => zI (((tmN nm nc) j : Nat) : Int)))), (a11, .inr (3, [.ref b21])), (b21, .inl (c 2, 4 * (nc + 1), .inr (.inl (zadd (zor (tmw fw lw nc) nc iw 0) nc 255))))] := hD
          refine lv_aload_n hx hb d_Dr_toModel_124 rfl (lv_at hl 2 rfl) ?_
          have hPc : va_P D vwCl [(a8, .inl (c 0, nc, .inl (fun j => zI (((tmN nm nc) j : Nat) : Int))))] H := hP.sub (ws' := [(a8, .inl (c 0, nc, .inl (fun j => zI (((tmN nm nc) j : Nat) : Int))))]) [9] rfl
          have hDc : va_D A [(a8, .inl (c 0, nc, .inl (fun j => zI (((tmN nm nc) j : Nat) : Int))))] := hD.sub (ws' := [(a8, .inl (c 0, nc, .inl (fun j => zI (((tmN nm nc) j : Nat) : Int))))]) [9] (by decide) rfl
          have hDt : va_D (fun _ => True) [(a8, .inl (c 0, nc, .inl (fun j => zI (((tmN nm nc) j : Nat) : Int))))] := hDc.weaken (fun _ _ _ _ => trivial)
          refine z_callv (S := (Nat → Nat)) (w1 := fun u => [(a8, .inl (c 0, nc, .inl (fun j => zI ((u j : Nat) : Int))))]) (post := fun u => srt (tmN nm nc) u nc) (wc := [(a8, .inl (c 0, nc, .inl (fun j => zI (((tmN nm nc) j : Nat) : Int))))]) [9] rfl (fun _ => rfl) hP hD hS (va_runS (rm := rm_sort) (As := [.ref a8]) (rest := []) ⟨hx, hb, hml, hown, hts⟩ (c_sort l D c a8 nc (tmN nm nc) (by omega) (fun j hj => by rw [tmN_at nm nc j hj]; have := hnm j hj; omega)) (va_cwS 1 hts (gWS k_Dr_m74 k_s_Mo_sort k_n_Mo k_c_Mo_sort) rfl rfl rfl (by decide +kernel) ⟨Nat.le_of_ble_eq_true rfl, Nat.le_of_ble_eq_true rfl⟩) ⟨zblindW, fun U hU hW => ⟨rfl, ⟨by rw [hU]; exact hPc, hDt⟩, hKN.moved hW⟩⟩ rfl rfl hl.1 rfl (lv_room (Nat.le_of_ble_eq_true rfl)) d_Dr_toModel_125 ⟨Nat.le_of_ble_eq_true rfl, Nat.le_of_ble_eq_true rfl⟩) (fun u H locs hso hP hD hS => ?_)
          obtain ⟨en2, rfl⟩ : ∃ z, z = u := ⟨_, rfl⟩
          have hso : srt (tmN nm nc) en2 nc := hso
          have hP : va_P D vwCl [(d, .inr (0, [.ref dn, .ref df, .ref di, .ref dl, .ref dm, .int (zI ((nc : Nat) : Int)), .int (zI ((pp : Nat) : Int))])), (dn, .inl (c 0, 255, .inl (fun j => zI ((nm j : Nat) : Int)))), (df, .inr (3, [.ref dfw])), (dfw, .inl (c 2, 4 * 255, .inr (.inl fw))), (di, .inr (3, [.ref diw])), (diw, .inl (c 2, 4 * 40, .inr (.inl iw))), (dl, .inr (3, [.ref dlw])), (dlw, .inl (c 2, 4 * 40, .inr (.inl lw))), (dm, .inl (c 1, 40, .inl (fun j => zB (mb j)))), (a8, .inl (c 0, nc, .inl (fun j => zI ((en2 j : Nat) : Int)))), (a11, .inr (3, [.ref b21])), (b21, .inl (c 2, 4 * (nc + 1), .inr (.inl (zadd (zor (tmw fw lw nc) nc iw 0) nc 255))))] H := hP
          have hD : va_D A [(d, .inr (0, [.ref dn, .ref df, .ref di, .ref dl, .ref dm, .int (zI ((nc : Nat) : Int)), .int (zI ((pp : Nat) : Int))])), (dn, .inl (c 0, 255, .inl (fun j => zI ((nm j : Nat) : Int)))), (df, .inr (3, [.ref dfw])), (dfw, .inl (c 2, 4 * 255, .inr (.inl fw))), (di, .inr (3, [.ref diw])), (diw, .inl (c 2, 4 * 40, .inr (.inl iw))), (dl, .inr (3, [.ref dlw])), (dlw, .inl (c 2, 4 * 40, .inr (.inl lw))), (dm, .inl (c 1, 40, .inl (fun j => zB (mb j)))), (a8, .inl (c 0, nc, .inl (fun j => zI ((en2 j : Nat) : Int)))), (a11, .inr (3, [.ref b21])), (b21, .inl (c 2, 4 * (nc + 1), .inr (.inl (zadd (zor (tmw fw lw nc) nc iw 0) nc 255))))] := hD
          refine va_new (ci := 1) (fs := [.null, .null, .int (zB false)]) (C := R_Mo) (T := T_Mo) (N := 3) hx hb hts (fun w h => List.mem_cons_of_mem _ (inA_Mo w h)) ty_Mo tyok_Mo hown (hw k_Dr_c70) (hw k_o_Mo) (hw k_n_Mo) hK hP hD hS hA rfl (fun j hj => by rcases (show j = 0 ∨ j = 1 ∨ j = 2 by omega) with rfl | rfl | rfl <;> rfl) (Nat.le_of_ble_eq_true rfl) (Nat.le_of_ble_eq_true rfl) d_Dr_toModel_128 (fun a128 H hP hD hS => ?_)
          have hP : va_P D vwCl [(d, .inr (0, [.ref dn, .ref df, .ref di, .ref dl, .ref dm, .int (zI ((nc : Nat) : Int)), .int (zI ((pp : Nat) : Int))])), (dn, .inl (c 0, 255, .inl (fun j => zI ((nm j : Nat) : Int)))), (df, .inr (3, [.ref dfw])), (dfw, .inl (c 2, 4 * 255, .inr (.inl fw))), (di, .inr (3, [.ref diw])), (diw, .inl (c 2, 4 * 40, .inr (.inl iw))), (dl, .inr (3, [.ref dlw])), (dlw, .inl (c 2, 4 * 40, .inr (.inl lw))), (dm, .inl (c 1, 40, .inl (fun j => zB (mb j)))), (a8, .inl (c 0, nc, .inl (fun j => zI ((en2 j : Nat) : Int)))), (a11, .inr (3, [.ref b21])), (b21, .inl (c 2, 4 * (nc + 1), .inr (.inl (zadd (zor (tmw fw lw nc) nc iw 0) nc 255)))), (a128, .inr (1, [.null, .null, .int (zB false)]))] H := hP
          have hD : va_D A [(d, .inr (0, [.ref dn, .ref df, .ref di, .ref dl, .ref dm, .int (zI ((nc : Nat) : Int)), .int (zI ((pp : Nat) : Int))])), (dn, .inl (c 0, 255, .inl (fun j => zI ((nm j : Nat) : Int)))), (df, .inr (3, [.ref dfw])), (dfw, .inl (c 2, 4 * 255, .inr (.inl fw))), (di, .inr (3, [.ref diw])), (diw, .inl (c 2, 4 * 40, .inr (.inl iw))), (dl, .inr (3, [.ref dlw])), (dlw, .inl (c 2, 4 * 40, .inr (.inl lw))), (dm, .inl (c 1, 40, .inl (fun j => zB (mb j)))), (a8, .inl (c 0, nc, .inl (fun j => zI ((en2 j : Nat) : Int)))), (a11, .inr (3, [.ref b21])), (b21, .inl (c 2, 4 * (nc + 1), .inr (.inl (zadd (zor (tmw fw lw nc) nc iw 0) nc 255)))), (a128, .inr (1, [.null, .null, .int (zB false)]))] := hD
          refine W.widen (k := 4) (n := 1283) (by omega) (by omega) ?_
          refine lv_dup hx hb d_Dr_toModel_131 rfl ?_
          refine lv_aload_n hx hb d_Dr_toModel_132 rfl (lv_at hl 2 rfl) ?_
          refine lv_aload_n hx hb d_Dr_toModel_133 rfl (lv_at hl 1 rfl) ?_
          have hPc : va_P D vwCl [(a128, .inr (1, [.null, .null, .int (zB false)])), (a8, .inl (c 0, nc, .inl (fun j => zI ((en2 j : Nat) : Int)))), (a11, .inr (3, [.ref b21])), (b21, .inl (c 2, 4 * (nc + 1), .inr (.inl (zadd (zor (tmw fw lw nc) nc iw 0) nc 255))))] H := hP.sub (ws' := [(a128, .inr (1, [.null, .null, .int (zB false)])), (a8, .inl (c 0, nc, .inl (fun j => zI ((en2 j : Nat) : Int)))), (a11, .inr (3, [.ref b21])), (b21, .inl (c 2, 4 * (nc + 1), .inr (.inl (zadd (zor (tmw fw lw nc) nc iw 0) nc 255))))]) [12, 9, 10, 11] rfl
          have hDc : va_D A [(a128, .inr (1, [.null, .null, .int (zB false)])), (a8, .inl (c 0, nc, .inl (fun j => zI ((en2 j : Nat) : Int)))), (a11, .inr (3, [.ref b21])), (b21, .inl (c 2, 4 * (nc + 1), .inr (.inl (zadd (zor (tmw fw lw nc) nc iw 0) nc 255))))] := hD.sub (ws' := [(a128, .inr (1, [.null, .null, .int (zB false)])), (a8, .inl (c 0, nc, .inl (fun j => zI ((en2 j : Nat) : Int)))), (a11, .inr (3, [.ref b21])), (b21, .inl (c 2, 4 * (nc + 1), .inr (.inl (zadd (zor (tmw fw lw nc) nc iw 0) nc 255))))]) [12, 9, 10, 11] (by decide) rfl
          have hDt : va_D (fun _ => True) [(a128, .inr (1, [.null, .null, .int (zB false)])), (a8, .inl (c 0, nc, .inl (fun j => zI ((en2 j : Nat) : Int)))), (a11, .inr (3, [.ref b21])), (b21, .inl (c 2, 4 * (nc + 1), .inr (.inl (zadd (zor (tmw fw lw nc) nc iw 0) nc 255))))] := hDc.weaken (fun _ _ _ _ => trivial)
          refine z_callv (S := Unit) (w1 := fun u => [(a128, .inr (1, [.ref a8, .ref a11, .int (zB (!twA en2 (zadd (zor (tmw fw lw nc) nc iw 0) nc 255) nc (nc + 1)))])), (a8, .inl (c 0, nc, .inl (fun j => zI ((en2 j : Nat) : Int)))), (a11, .inr (3, [.ref b21])), (b21, .inl (c 2, 4 * (nc + 1), .inr (.inl (zadd (zor (tmw fw lw nc) nc iw 0) nc 255))))]) (post := fun u => True) (wc := [(a128, .inr (1, [.null, .null, .int (zB false)])), (a8, .inl (c 0, nc, .inl (fun j => zI ((en2 j : Nat) : Int)))), (a11, .inr (3, [.ref b21])), (b21, .inl (c 2, 4 * (nc + 1), .inr (.inl (zadd (zor (tmw fw lw nc) nc iw 0) nc 255))))]) [12, 9, 10, 11] rfl (fun _ => rfl) hP hD hS (va_runI (rm := rm_modelInit) (As := [.ref a8, .ref a11]) (rest := [.ref a128]) ⟨hx, hb, hml, hown, hts⟩ (c_modelInit l D c a128 a8 a11 b21 en2 nc (zadd (zor (tmw fw lw nc) nc iw 0) nc 255) (by omega) (fun j hj => prm_lt (fun j hj => by rw [tmN_at nm nc j hj]; have := hnm j hj; omega) hso.2 j hj)) (cwI 2 hts (gW k_c_Mo_init) rfl rfl rfl (hw k_n_Mo) (hw k_Dr_m78) (hw k_i_Mo_init) rfl (by decide +kernel) ⟨Nat.le_of_ble_eq_true rfl, Nat.le_of_ble_eq_true rfl⟩) ⟨zblindW, fun U hU hW => ⟨rfl, ⟨by rw [hU]; exact hPc, hDt⟩, hKN.moved hW⟩⟩ rfl rfl hl.1 rfl (lv_room (Nat.le_of_ble_eq_true rfl)) d_Dr_toModel_134 ⟨Nat.le_of_ble_eq_true rfl, Nat.le_of_ble_eq_true rfl⟩) (fun u H locs hp_8 hP hD hS => ?_)
          have hP : va_P D vwCl [(d, .inr (0, [.ref dn, .ref df, .ref di, .ref dl, .ref dm, .int (zI ((nc : Nat) : Int)), .int (zI ((pp : Nat) : Int))])), (dn, .inl (c 0, 255, .inl (fun j => zI ((nm j : Nat) : Int)))), (df, .inr (3, [.ref dfw])), (dfw, .inl (c 2, 4 * 255, .inr (.inl fw))), (di, .inr (3, [.ref diw])), (diw, .inl (c 2, 4 * 40, .inr (.inl iw))), (dl, .inr (3, [.ref dlw])), (dlw, .inl (c 2, 4 * 40, .inr (.inl lw))), (dm, .inl (c 1, 40, .inl (fun j => zB (mb j)))), (a8, .inl (c 0, nc, .inl (fun j => zI ((en2 j : Nat) : Int)))), (a11, .inr (3, [.ref b21])), (b21, .inl (c 2, 4 * (nc + 1), .inr (.inl (zadd (zor (tmw fw lw nc) nc iw 0) nc 255)))), (a128, .inr (1, [.ref a8, .ref a11, .int (zB (!twA en2 (zadd (zor (tmw fw lw nc) nc iw 0) nc 255) nc (nc + 1)))]))] H := hP
          have hD : va_D A [(d, .inr (0, [.ref dn, .ref df, .ref di, .ref dl, .ref dm, .int (zI ((nc : Nat) : Int)), .int (zI ((pp : Nat) : Int))])), (dn, .inl (c 0, 255, .inl (fun j => zI ((nm j : Nat) : Int)))), (df, .inr (3, [.ref dfw])), (dfw, .inl (c 2, 4 * 255, .inr (.inl fw))), (di, .inr (3, [.ref diw])), (diw, .inl (c 2, 4 * 40, .inr (.inl iw))), (dl, .inr (3, [.ref dlw])), (dlw, .inl (c 2, 4 * 40, .inr (.inl lw))), (dm, .inl (c 1, 40, .inl (fun j => zB (mb j)))), (a8, .inl (c 0, nc, .inl (fun j => zI ((en2 j : Nat) : Int)))), (a11, .inr (3, [.ref b21])), (b21, .inl (c 2, 4 * (nc + 1), .inr (.inl (zadd (zor (tmw fw lw nc) nc iw 0) nc 255)))), (a128, .inr (1, [.ref a8, .ref a11, .int (zB (!twA en2 (zadd (zor (tmw fw lw nc) nc iw 0) nc 255) nc (nc + 1)))]))] := hD
          subst hQ
          refine W.widen (k := 4) (n := 1283) (by omega) (by omega) ?_
          exact W.aret (v := .ref a128) hx hb hr (Or.inl ⟨_, rfl⟩) (Or.inr ⟨_, rfl⟩) (fun t9 ht hW => ⟨⟨(a8, a11, b21, en2), _, rfl, hso, by show va_P _ _ _ t9.heap; rw [ht]; rw [tmE_T (nn := mb 0) hc_110]; exact hP.sub [0, 1, 2, 3, 4, 5, 6, 7, 8, 12, 9, 10, 11] rfl, by rw [tmE_T (nn := mb 0) hc_110]; exact hD.sub [0, 1, 2, 3, 4, 5, 6, 7, 8, 12, 9, 10, 11] (by decide) rfl⟩, hS.F ht⟩) hS.2.2 d_Dr_toModel_137
      · refine lv_iload_n hx hb d_Dr_toModel_33 rfl (lv_at hl 0 rfl) ?_
        refine lv_aload_n hx hb d_Dr_toModel_34 rfl (lv_at hl 3 rfl) ?_
        refine va_get (D := D) (ci := 0) (v := .ref dn) (C := R_Dr) (T := T_Dr) (N := 7) hx hb hts (fun w h => List.mem_cons_of_mem _ (inA_Dr w h)) hown hK hP 0 rfl rfl 0 (by decide) (hw k_Dr_f9) (fun _ h9 => h9) rfl d_Dr_toModel_35 ?_
        refine z_alen hx hb hK hP 1 0 rfl rfl d_Dr_toModel_38 ?_
        refine z_top (v2 := .int (zI (255 : Int))) rfl ?_
        refine z_icmp_ge (tgt := 91) hx hb (by omega) d_Dr_toModel_39 (by decide) (fun hc_39 => absurd hc_39 (by omega)) (fun hc_39 => ?_)
        refine lv_aload_n hx hb d_Dr_toModel_42 rfl (lv_at hl 2 rfl) ?_
        refine lv_iload_n hx hb d_Dr_toModel_43 rfl (lv_at hl 0 rfl) ?_
        refine lv_aload_n hx hb d_Dr_toModel_44 rfl (lv_at hl 3 rfl) ?_
        refine va_get (D := D) (ci := 0) (v := .ref dn) (C := R_Dr) (T := T_Dr) (N := 7) hx hb hts (fun w h => List.mem_cons_of_mem _ (inA_Dr w h)) hown hK hP 0 rfl rfl 0 (by decide) (hw k_Dr_f9) (fun _ h9 => h9) rfl d_Dr_toModel_45 ?_
        refine lv_iload_n hx hb d_Dr_toModel_48 rfl (lv_at hl 0 rfl) ?_
        refine z_uald hx hb hK hP 1 0 rfl rfl (v) (by omega) (by omega) (by omega) d_Dr_toModel_49 ?_
        refine lv_iload_n hx hb d_Dr_toModel_50 rfl (lv_at hl 0 rfl) ?_
        have hPc : va_P D vwCl [] H := hP.sub (ws' := []) [] rfl
        refine vp_callSi (va_runS (rm := rm_entry) (As := [.int (zI ((nm v : Nat) : Int)), .int (zI ((v : Nat) : Int))]) (rest := [.int (zI ((v : Nat) : Int)), .ref a8]) ⟨hx, hb, hml, hown, hts⟩ (c_entry l D c (nm v) v (by have := hnm v (by omega); omega) (by omega)) (va_cwS 2 hts (gWS k_Dr_m69 k_s_Mo_entry k_n_Mo k_c_Mo_entry) rfl rfl rfl (by decide +kernel) ⟨Nat.le_of_ble_eq_true rfl, Nat.le_of_ble_eq_true rfl⟩) ⟨zblind, fun U hU hW => ⟨rfl, by rw [hU]; exact hPc, hKN.moved hW⟩⟩ rfl rfl hl.1 rfl (lv_room (Nat.le_of_ble_eq_true rfl)) d_Dr_toModel_51 ⟨Nat.le_of_ble_eq_true rfl, Nat.le_of_ble_eq_true rfl⟩).run (fun r hr_9 => ?_)
        subst hr_9
        refine z_uast hx hb hK hP hD hS 9 0 rfl rfl (v) (by omega) (by omega) (by omega) d_Dr_toModel_54 (fun H locs hP hD hS => ?_)
        have hP : va_P D vwCl [(d, .inr (0, [.ref dn, .ref df, .ref di, .ref dl, .ref dm, .int (zI ((nc : Nat) : Int)), .int (zI ((pp : Nat) : Int))])), (dn, .inl (c 0, 255, .inl (fun j => zI ((nm j : Nat) : Int)))), (df, .inr (3, [.ref dfw])), (dfw, .inl (c 2, 4 * 255, .inr (.inl fw))), (di, .inr (3, [.ref diw])), (diw, .inl (c 2, 4 * 40, .inr (.inl iw))), (dl, .inr (3, [.ref dlw])), (dlw, .inl (c 2, 4 * 40, .inr (.inl lw))), (dm, .inl (c 1, 40, .inl (fun j => zB (mb j)))), (a8, .inl (c 0, nc, .inl (fun j => zI (((va_up (tmN nm v) v ((nm v) * 256 + v)) j : Nat) : Int)))), (a11, .inr (3, [.ref b21])), (b21, .inl (c 2, 4 * (nc + 1), .inr (.inl (tmw fw lw v))))] H := hP
        have hD : va_D A [(d, .inr (0, [.ref dn, .ref df, .ref di, .ref dl, .ref dm, .int (zI ((nc : Nat) : Int)), .int (zI ((pp : Nat) : Int))])), (dn, .inl (c 0, 255, .inl (fun j => zI ((nm j : Nat) : Int)))), (df, .inr (3, [.ref dfw])), (dfw, .inl (c 2, 4 * 255, .inr (.inl fw))), (di, .inr (3, [.ref diw])), (diw, .inl (c 2, 4 * 40, .inr (.inl iw))), (dl, .inr (3, [.ref dlw])), (dlw, .inl (c 2, 4 * 40, .inr (.inl lw))), (dm, .inl (c 1, 40, .inl (fun j => zB (mb j)))), (a8, .inl (c 0, nc, .inl (fun j => zI (((va_up (tmN nm v) v ((nm v) * 256 + v)) j : Nat) : Int)))), (a11, .inr (3, [.ref b21])), (b21, .inl (c 2, 4 * (nc + 1), .inr (.inl (tmw fw lw v))))] := hD
        refine lv_aload_n hx hb d_Dr_toModel_55 rfl (lv_at hl 1 rfl) ?_
        refine lv_iload_n hx hb d_Dr_toModel_56 rfl (lv_at hl 0 rfl) ?_
        refine lv_aload_n hx hb d_Dr_toModel_57 rfl (lv_at hl 3 rfl) ?_
        refine va_get (D := D) (ci := 0) (v := .ref df) (C := R_Dr) (T := T_Dr) (N := 7) hx hb hts (fun w h => List.mem_cons_of_mem _ (inA_Dr w h)) hown hK hP 0 rfl rfl 1 (by decide) (hw k_Dr_f20) (fun _ h9 => h9) rfl d_Dr_toModel_58 ?_
        refine lv_iload_n hx hb d_Dr_toModel_61 rfl (lv_at hl 0 rfl) ?_
        have hPc : va_P D vwCl [(a11, .inr (3, [.ref b21])), (b21, .inl (c 2, 4 * (nc + 1), .inr (.inl (tmw fw lw v)))), (df, .inr (3, [.ref dfw])), (dfw, .inl (c 2, 4 * 255, .inr (.inl fw)))] H := hP.sub (ws' := [(a11, .inr (3, [.ref b21])), (b21, .inl (c 2, 4 * (nc + 1), .inr (.inl (tmw fw lw v)))), (df, .inr (3, [.ref dfw])), (dfw, .inl (c 2, 4 * 255, .inr (.inl fw)))]) [10, 11, 2, 3] rfl
        have hDc : va_D A [(a11, .inr (3, [.ref b21])), (b21, .inl (c 2, 4 * (nc + 1), .inr (.inl (tmw fw lw v)))), (df, .inr (3, [.ref dfw])), (dfw, .inl (c 2, 4 * 255, .inr (.inl fw)))] := hD.sub (ws' := [(a11, .inr (3, [.ref b21])), (b21, .inl (c 2, 4 * (nc + 1), .inr (.inl (tmw fw lw v)))), (df, .inr (3, [.ref dfw])), (dfw, .inl (c 2, 4 * 255, .inr (.inl fw)))]) [10, 11, 2, 3] (by decide) rfl
        have hDt : va_D (fun _ => True) [(a11, .inr (3, [.ref b21])), (b21, .inl (c 2, 4 * (nc + 1), .inr (.inl (tmw fw lw v)))), (df, .inr (3, [.ref dfw])), (dfw, .inl (c 2, 4 * 255, .inr (.inl fw)))] := hDc.weaken (fun _ _ _ _ => trivial)
        refine z_callv (S := Unit) (w1 := fun u => [(a11, .inr (3, [.ref b21])), (b21, .inl (c 2, 4 * (nc + 1), .inr (.inl (zor (tmw fw lw v) v fw v)))), (df, .inr (3, [.ref dfw])), (dfw, .inl (c 2, 4 * 255, .inr (.inl fw)))]) (post := fun u => True) (wc := [(a11, .inr (3, [.ref b21])), (b21, .inl (c 2, 4 * (nc + 1), .inr (.inl (tmw fw lw v)))), (df, .inr (3, [.ref dfw])), (dfw, .inl (c 2, 4 * 255, .inr (.inl fw)))]) [10, 11, 2, 3] rfl (fun _ => rfl) hP hD hS (va_runV (rm := rm_addAll) (As := [.int (zI ((v : Nat) : Int)), .ref df, .int (zI ((v : Nat) : Int))]) (rest := []) ⟨hx, hb, hml, hown, hts⟩ (c_addAll l D c a11 b21 (nc + 1) (tmw fw lw v) v df dfw 255 fw v (by omega) (by omega) (by omega) (by omega)) (cwV 3 hts (gWV k_Dr_m55 k_i_Se_addAll k_v_Se_addAll k_n_Se k_c_Se_addAll) rfl rfl rfl (by decide +kernel) ⟨Nat.le_of_ble_eq_true rfl, Nat.le_of_ble_eq_true rfl⟩) ⟨zblindW, va_recv hK hPc (ci := 3) (q0 := 0) rfl rfl, fun U hU hW => ⟨rfl, ⟨by rw [hU]; exact hPc, hDt⟩, hKN.moved hW⟩⟩ rfl rfl hl.1 rfl (lv_room (Nat.le_of_ble_eq_true rfl)) d_Dr_toModel_62 ⟨Nat.le_of_ble_eq_true rfl, Nat.le_of_ble_eq_true rfl⟩) (fun u H locs hp_10 hP hD hS => ?_)
        have hP : va_P D vwCl [(d, .inr (0, [.ref dn, .ref df, .ref di, .ref dl, .ref dm, .int (zI ((nc : Nat) : Int)), .int (zI ((pp : Nat) : Int))])), (dn, .inl (c 0, 255, .inl (fun j => zI ((nm j : Nat) : Int)))), (df, .inr (3, [.ref dfw])), (dfw, .inl (c 2, 4 * 255, .inr (.inl fw))), (di, .inr (3, [.ref diw])), (diw, .inl (c 2, 4 * 40, .inr (.inl iw))), (dl, .inr (3, [.ref dlw])), (dlw, .inl (c 2, 4 * 40, .inr (.inl lw))), (dm, .inl (c 1, 40, .inl (fun j => zB (mb j)))), (a8, .inl (c 0, nc, .inl (fun j => zI (((va_up (tmN nm v) v ((nm v) * 256 + v)) j : Nat) : Int)))), (a11, .inr (3, [.ref b21])), (b21, .inl (c 2, 4 * (nc + 1), .inr (.inl (zor (tmw fw lw v) v fw v))))] H := hP
        have hD : va_D A [(d, .inr (0, [.ref dn, .ref df, .ref di, .ref dl, .ref dm, .int (zI ((nc : Nat) : Int)), .int (zI ((pp : Nat) : Int))])), (dn, .inl (c 0, 255, .inl (fun j => zI ((nm j : Nat) : Int)))), (df, .inr (3, [.ref dfw])), (dfw, .inl (c 2, 4 * 255, .inr (.inl fw))), (di, .inr (3, [.ref diw])), (diw, .inl (c 2, 4 * 40, .inr (.inl iw))), (dl, .inr (3, [.ref dlw])), (dlw, .inl (c 2, 4 * 40, .inr (.inl lw))), (dm, .inl (c 1, 40, .inl (fun j => zB (mb j)))), (a8, .inl (c 0, nc, .inl (fun j => zI (((va_up (tmN nm v) v ((nm v) * 256 + v)) j : Nat) : Int)))), (a11, .inr (3, [.ref b21])), (b21, .inl (c 2, 4 * (nc + 1), .inr (.inl (zor (tmw fw lw v) v fw v))))] := hD
        refine lv_aload_n hx hb d_Dr_toModel_65 rfl (lv_at hl 3 rfl) ?_
        refine va_get (D := D) (ci := 0) (v := .ref dl) (C := R_Dr) (T := T_Dr) (N := 7) hx hb hts (fun w h => List.mem_cons_of_mem _ (inA_Dr w h)) hown hK hP 0 rfl rfl 3 (by decide) (hw k_Dr_f27) (fun _ h9 => h9) rfl d_Dr_toModel_66 ?_
        refine lv_iconst (v := zI 0) hx hb d_Dr_toModel_69 (by decide) ?_
        refine lv_iload_n hx hb d_Dr_toModel_70 rfl (lv_at hl 0 rfl) ?_
        have hPc : va_P D vwCl [(dl, .inr (3, [.ref dlw])), (dlw, .inl (c 2, 4 * 40, .inr (.inl lw)))] H := hP.sub (ws' := [(dl, .inr (3, [.ref dlw])), (dlw, .inl (c 2, 4 * 40, .inr (.inl lw)))]) [6, 7] rfl
        refine vp_callSi (va_runV (rm := rm_holds) (As := [.int (zI 0), .int (zI ((v : Nat) : Int))]) (rest := []) ⟨hx, hb, hml, hown, hts⟩ (c_holds l D c dl dlw 40 lw 0 v (by omega) (by omega) (by omega)) (cwV 2 hts (gWV k_Dr_m59 k_i_Se_holds k_v_Se_holds k_n_Se k_c_Se_holds) rfl rfl rfl (by decide +kernel) ⟨Nat.le_of_ble_eq_true rfl, Nat.le_of_ble_eq_true rfl⟩) ⟨zblind, va_recv hK hPc (ci := 3) (q0 := 0) rfl rfl, fun U hU hW => ⟨rfl, by rw [hU]; exact hPc, hKN.moved hW⟩⟩ rfl rfl hl.1 rfl (lv_room (Nat.le_of_ble_eq_true rfl)) d_Dr_toModel_71 ⟨Nat.le_of_ble_eq_true rfl, Nat.le_of_ble_eq_true rfl⟩).run (fun r hr_11 => ?_)
        subst hr_11
        refine z_ifeq_B (tgt := 85) hx hb d_Dr_toModel_74 (by decide) (fun hc_74 => ?_) (fun hc_74 => ?_)
        · refine lv_iinc (v := zI ((v + 1 : Nat) : Int)) (lv' := [(3, .int (zI ((v + 1 : Nat) : Int))), (2, .ref a11), (1, .ref a8), (0, .ref d)]) hx hb d_Dr_toModel_85 hl (k := 0) rfl (z_incN _ 1) (by decide) rfl (fun ls hl => ?_)
          refine lv_goto (tgt := 27) hx hb d_Dr_toModel_88 (by decide) ?_
          exact ih_27 (v + 1) (by omega) (by omega) _ _ (by rw [tmw_F hc_74]; exact hP) (z_D_congr (by rfl) hD) hS _ (lv_sub hl [0, 1, 2, 3] rfl)
        · refine lv_aload_n hx hb d_Dr_toModel_77 rfl (lv_at hl 1 rfl) ?_
          refine lv_iload_n hx hb d_Dr_toModel_78 rfl (lv_at hl 0 rfl) ?_
          refine lv_sipush (v := zI 255) hx hb d_Dr_toModel_79 (by decide) ?_
          have hPc : va_P D vwCl [(a11, .inr (3, [.ref b21])), (b21, .inl (c 2, 4 * (nc + 1), .inr (.inl (zor (tmw fw lw v) v fw v))))] H := hP.sub (ws' := [(a11, .inr (3, [.ref b21])), (b21, .inl (c 2, 4 * (nc + 1), .inr (.inl (zor (tmw fw lw v) v fw v))))]) [10, 11] rfl
          have hDc : va_D A [(a11, .inr (3, [.ref b21])), (b21, .inl (c 2, 4 * (nc + 1), .inr (.inl (zor (tmw fw lw v) v fw v))))] := hD.sub (ws' := [(a11, .inr (3, [.ref b21])), (b21, .inl (c 2, 4 * (nc + 1), .inr (.inl (zor (tmw fw lw v) v fw v))))]) [10, 11] (by decide) rfl
          have hDt : va_D (fun _ => True) [(a11, .inr (3, [.ref b21])), (b21, .inl (c 2, 4 * (nc + 1), .inr (.inl (zor (tmw fw lw v) v fw v))))] := hDc.weaken (fun _ _ _ _ => trivial)
          refine z_callv (S := Unit) (w1 := fun u => [(a11, .inr (3, [.ref b21])), (b21, .inl (c 2, 4 * (nc + 1), .inr (.inl (zadd (zor (tmw fw lw v) v fw v) v 255))))]) (post := fun u => True) (wc := [(a11, .inr (3, [.ref b21])), (b21, .inl (c 2, 4 * (nc + 1), .inr (.inl (zor (tmw fw lw v) v fw v))))]) [10, 11] rfl (fun _ => rfl) hP hD hS (va_runV (rm := rm_add) (As := [.int (zI ((v : Nat) : Int)), .int (zI 255)]) (rest := []) ⟨hx, hb, hml, hown, hts⟩ (c_add l D c a11 b21 (nc + 1) (zor (tmw fw lw v) v fw v) v 255 (by omega) (by omega) (by omega)) (cwV 2 hts (gWV k_Dr_m44 k_i_Se_add k_v_Se_add k_n_Se k_c_Se_add) rfl rfl rfl (by decide +kernel) ⟨Nat.le_of_ble_eq_true rfl, Nat.le_of_ble_eq_true rfl⟩) ⟨zblindW, va_recv hK hPc (ci := 3) (q0 := 0) rfl rfl, fun U hU hW => ⟨rfl, ⟨by rw [hU]; exact hPc, hDt⟩, hKN.moved hW⟩⟩ rfl rfl hl.1 rfl (lv_room (Nat.le_of_ble_eq_true rfl)) d_Dr_toModel_82 ⟨Nat.le_of_ble_eq_true rfl, Nat.le_of_ble_eq_true rfl⟩) (fun u H locs hp_12 hP hD hS => ?_)
          have hP : va_P D vwCl [(d, .inr (0, [.ref dn, .ref df, .ref di, .ref dl, .ref dm, .int (zI ((nc : Nat) : Int)), .int (zI ((pp : Nat) : Int))])), (dn, .inl (c 0, 255, .inl (fun j => zI ((nm j : Nat) : Int)))), (df, .inr (3, [.ref dfw])), (dfw, .inl (c 2, 4 * 255, .inr (.inl fw))), (di, .inr (3, [.ref diw])), (diw, .inl (c 2, 4 * 40, .inr (.inl iw))), (dl, .inr (3, [.ref dlw])), (dlw, .inl (c 2, 4 * 40, .inr (.inl lw))), (dm, .inl (c 1, 40, .inl (fun j => zB (mb j)))), (a8, .inl (c 0, nc, .inl (fun j => zI (((va_up (tmN nm v) v ((nm v) * 256 + v)) j : Nat) : Int)))), (a11, .inr (3, [.ref b21])), (b21, .inl (c 2, 4 * (nc + 1), .inr (.inl (zadd (zor (tmw fw lw v) v fw v) v 255))))] H := hP
          have hD : va_D A [(d, .inr (0, [.ref dn, .ref df, .ref di, .ref dl, .ref dm, .int (zI ((nc : Nat) : Int)), .int (zI ((pp : Nat) : Int))])), (dn, .inl (c 0, 255, .inl (fun j => zI ((nm j : Nat) : Int)))), (df, .inr (3, [.ref dfw])), (dfw, .inl (c 2, 4 * 255, .inr (.inl fw))), (di, .inr (3, [.ref diw])), (diw, .inl (c 2, 4 * 40, .inr (.inl iw))), (dl, .inr (3, [.ref dlw])), (dlw, .inl (c 2, 4 * 40, .inr (.inl lw))), (dm, .inl (c 1, 40, .inl (fun j => zB (mb j)))), (a8, .inl (c 0, nc, .inl (fun j => zI (((va_up (tmN nm v) v ((nm v) * 256 + v)) j : Nat) : Int)))), (a11, .inr (3, [.ref b21])), (b21, .inl (c 2, 4 * (nc + 1), .inr (.inl (zadd (zor (tmw fw lw v) v fw v) v 255))))] := hD
          refine lv_iinc (v := zI ((v + 1 : Nat) : Int)) (lv' := [(3, .int (zI ((v + 1 : Nat) : Int))), (2, .ref a11), (1, .ref a8), (0, .ref d)]) hx hb d_Dr_toModel_85 hl (k := 0) rfl (z_incN _ 1) (by decide) rfl (fun ls hl => ?_)
          refine lv_goto (tgt := 27) hx hb d_Dr_toModel_88 (by decide) ?_
          exact ih_27 (v + 1) (by omega) (by omega) _ _ (by rw [tmw_T hc_74]; exact hP) (z_D_congr (by rfl) hD) hS _ (lv_sub hl [0, 1, 2, 3] rfl)
  exact lp_27 _ 0 (Nat.lt_succ_self _) (by omega) _ _ hP hD hS _ (lv_sub hl [0, 1, 2, 3] rfl)
end
section
def rm_isName : Room := { frames := 0, cells := 0, slots := 0, locals := 0 }
set_option maxHeartbeats 4000000 in
set_option maxRecDepth 100000 in
/-- isName -/
theorem c_isName (l : Launch) (D : va_G) (c : Nat → ClassId) (y : Int) (hy : -2147483648 ≤ y ∧ y < 2147483648) : Met l y_To_isName w_To_isName rm_isName (va_Pc [.int (zI y)] (fun U => va_P D vwCl [] U.heap ∧ zK D c U)) (vp_Si (fun r => r = (zB (decide (1 ≤ y ∧ y ≤ 1000))))) 0 0 (fun _ => False) := by
  refine Met.ofW (cc := b_To_isName) (maxL := 1) (ret := (some .boolean)) (by decide) rfl ?_
  intro p e s m args below meth c0 s₁ B hml hv
  obtain ⟨rfl, hP, hKN⟩ := hv
  have hK := hKN.1
  have hN := hKN.2
  have hx := B.exec
  have hb := B.bytes
  have hr := B.returns
  have hts := atoms_spec (ws := w_To_isName) B.pre
  have hw : ∀ {w : Cond}, w ∈ ALLW → w.before _ s = true := fun h => hts _ (List.mem_cons_of_mem _ h)
  have hown : s.vm.findClass R_To = some m.cls := findClass_of_methodNamed B.named
  have hlocks := B.notSynchronized
  have hl := lv_entry ([.int (zI y)]) (n := 1) (Nat.le_of_ble_eq_true rfl)
  rw [lg_entry_eq]
  generalize (lg_sl ([.int (zI y)]) ++ List.replicate (1 - (lg_sl ([.int (zI y)])).length) Slot.unset).toArray = ls at hl ⊢
  have hl : lv_has ls 1 [(0, .int (zI y))] := hl
  generalize hQ : MQ below _ _ _ _ _ _ = Q
  refine lv_iload_n hx hb d_To_isName_0 rfl (lv_at hl 0 rfl) ?_
  refine lv_iconst (v := zI 1) hx hb d_To_isName_1 (by decide) ?_
  refine z_icmp_lt (tgt := 16) hx hb (by omega) d_To_isName_2 (by decide) (fun hc_2 => ?_) (fun hc_2 => ?_)
  · refine lv_iconst (v := zI 0) hx hb d_To_isName_16 (by decide) ?_
    subst hQ
    exact W.zret (ty := .boolean) (v := (zI 0)) hx hb hr (by decide) (fun t9 ht hW => ⟨_, rfl, (by rw [decide_eq_false (by omega)]; decide), ht⟩) (fun q hq => absurd hq List.not_mem_nil) d_To_isName_17
  · refine lv_iload_n hx hb d_To_isName_5 rfl (lv_at hl 0 rfl) ?_
    refine lv_sipush (v := zI 1000) hx hb d_To_isName_6 (by decide) ?_
    refine z_icmp_gt (tgt := 16) hx hb (by omega) d_To_isName_9 (by decide) (fun hc_9 => ?_) (fun hc_9 => ?_)
    · refine lv_iconst (v := zI 0) hx hb d_To_isName_16 (by decide) ?_
      subst hQ
      exact W.zret (ty := .boolean) (v := (zI 0)) hx hb hr (by decide) (fun t9 ht hW => ⟨_, rfl, (by rw [decide_eq_false (by omega)]; decide), ht⟩) (fun q hq => absurd hq List.not_mem_nil) d_To_isName_17
    · refine lv_iconst (v := zI 1) hx hb d_To_isName_12 (by decide) ?_
      refine lv_goto (tgt := 17) hx hb d_To_isName_13 (by decide) ?_
      subst hQ
      exact W.zret (ty := .boolean) (v := (zI 1)) hx hb hr (by decide) (fun t9 ht hW => ⟨_, rfl, (by rw [decide_eq_true (by omega)]; decide), ht⟩) (fun q hq => absurd hq List.not_mem_nil) d_To_isName_17

def rm_name_bad : Room := { frames := 1, cells := 0, slots := 0, locals := 20 }
set_option maxHeartbeats 4000000 in
set_option maxRecDepth 100000 in
/-- name, no name -/
theorem c_name_bad (l : Launch) (D : va_G) (c : Nat → ClassId) (x : Nat) (xm : Nat) (d : Nat) (rd : Nat) (mg : Nat → Option Nat) (mk : Nat) (y : Int) (hy : -2147483648 ≤ y ∧ y < 2147483648) (hb_ : ¬ (1 ≤ y ∧ y ≤ 1000)) : Met l y_To_name w_To_name rm_name_bad (va_Pc [.ref x, .int (zI y)] (fun U => va_P D vwCl [(x, .inr (4, [.ref d, .ref xm, .ref rd, .int (zI ((mk : Nat) : Int))]))] U.heap ∧ zK D c U)) (vp_Si (fun r => r = (zI (-1)))) 0 0 (fun _ => False) := by
  refine Met.ofW (cc := b_To_name) (maxL := 2) (ret := (some .int)) (by decide) rfl ?_
  intro p e s m args below meth c0 s₁ B hml hv
  obtain ⟨rfl, hP, hKN⟩ := hv
  have hK := hKN.1
  have hN := hKN.2
  have hx := B.exec
  have hb := B.bytes
  have hr := B.returns
  have hts := atoms_spec (ws := w_To_name) B.pre
  have hw : ∀ {w : Cond}, w ∈ ALLW → w.before _ s = true := fun h => hts _ (List.mem_cons_of_mem _ h)
  have hown : s.vm.findClass R_To = some m.cls := findClass_of_methodNamed B.named
  have hlocks := B.notSynchronized
  have hl := lv_entry ([.ref x, .int (zI y)]) (n := 2) (Nat.le_of_ble_eq_true rfl)
  rw [lg_entry_eq]
  generalize (lg_sl ([.ref x, .int (zI y)]) ++ List.replicate (2 - (lg_sl ([.ref x, .int (zI y)])).length) Slot.unset).toArray = ls at hl ⊢
  have hl : lv_has ls 2 [(0, .ref x), (1, .int (zI y))] := hl
  generalize hQ : MQ below _ _ _ _ _ _ = Q
  refine lv_iload_n hx hb d_To_name_0 rfl (lv_at hl 1 rfl) ?_
  have hPc : va_P D vwCl [] s.heap := hP.sub (ws' := []) [] rfl
  refine vp_callSi (va_runS (rm := rm_isName) (As := [.int (zI y)]) (rest := []) ⟨hx, hb, hml, hown, hts⟩ (c_isName l D c y (by omega)) (va_cwS 1 hts (gWS k_To_m33 k_s_To_isName k_n_To k_c_To_isName) rfl rfl rfl (by decide +kernel) ⟨Nat.le_of_ble_eq_true rfl, Nat.le_of_ble_eq_true rfl⟩) ⟨zblind, fun U hU hW => ⟨rfl, by rw [hU]; exact hPc, hKN.moved hW⟩⟩ rfl rfl hl.1 rfl (lv_room (Nat.le_of_ble_eq_true rfl)) d_To_name_1 ⟨Nat.zero_le _, Nat.zero_le _⟩).run (fun r hr_1 => ?_)
  subst hr_1
  refine z_ifeq_B (tgt := 28) hx hb d_To_name_4 (by decide) (fun hc_4 => ?_) (fun hc_4 => (absurd hc_4 (by rw [decide_eq_false (by omega)]; decide)))
  refine lv_iconst (v := zI (-1)) hx hb d_To_name_28 (by decide) ?_
  subst hQ
  exact W.iret (v := (zI (-1))) hx hb hr (fun t9 ht hW => ⟨_, rfl, rfl, ht⟩) (fun q hq => absurd hq List.not_mem_nil) d_To_name_29

def rm_name_no : Room := { frames := 1, cells := 0, slots := 0, locals := 23 }
set_option maxHeartbeats 4000000 in
set_option maxRecDepth 100000 in
/-- name, refused -/
theorem c_name_no (l : Launch) (D : va_G) (c : Nat → ClassId) (x : Nat) (xm : Nat) (rd : Nat) (d : Nat) (dn : Nat) (df : Nat) (dfw : Nat) (di : Nat) (diw : Nat) (dl : Nat) (dlw : Nat) (dm : Nat) (mg : Nat → Option Nat) (mk : Nat) (nm : Nat → Nat) (fw : Nat → Int64) (iw : Nat → Int64) (lw : Nat → Int64) (mb : Nat → Bool) (nc : Nat) (pp : Nat) (n : Nat) (hn_ : 1 ≤ n ∧ n ≤ 1000) (hp : pp ≤ 40) (hc : nc ≤ 255) (hno : pp = 40 ∨ nc = 255) : Met l y_To_name w_To_name rm_name_no (va_Pc [.ref x, .int (zI ((n : Nat) : Int))] (fun U => va_P D vwCl [(x, .inr (4, [.ref d, .ref xm, .ref rd, .int (zI ((mk : Nat) : Int))])), (d, .inr (0, [.ref dn, .ref df, .ref di, .ref dl, .ref dm, .int (zI ((nc : Nat) : Int)), .int (zI ((pp : Nat) : Int))])), (dn, .inl (c 0, 255, .inl (fun j => zI ((nm j : Nat) : Int)))), (dm, .inl (c 1, 40, .inl (fun j => zB (mb j))))] U.heap ∧ zK D c U)) (vp_Si (fun r => r = (zI (-1)))) 0 0 (fun _ => False) := by
  refine Met.ofW (cc := b_To_name) (maxL := 2) (ret := (some .int)) (by decide) rfl ?_
  intro p e s m args below meth c0 s₁ B hml hv
  obtain ⟨rfl, hP, hKN⟩ := hv
  have hK := hKN.1
  have hN := hKN.2
  have hx := B.exec
  have hb := B.bytes
  have hr := B.returns
  have hts := atoms_spec (ws := w_To_name) B.pre
  have hw : ∀ {w : Cond}, w ∈ ALLW → w.before _ s = true := fun h => hts _ (List.mem_cons_of_mem _ h)
  have hown : s.vm.findClass R_To = some m.cls := findClass_of_methodNamed B.named
  have hlocks := B.notSynchronized
  have hl := lv_entry ([.ref x, .int (zI ((n : Nat) : Int))]) (n := 2) (Nat.le_of_ble_eq_true rfl)
  rw [lg_entry_eq]
  generalize (lg_sl ([.ref x, .int (zI ((n : Nat) : Int))]) ++ List.replicate (2 - (lg_sl ([.ref x, .int (zI ((n : Nat) : Int))])).length) Slot.unset).toArray = ls at hl ⊢
  have hl : lv_has ls 2 [(0, .ref x), (1, .int (zI ((n : Nat) : Int)))] := hl
  generalize hQ : MQ below _ _ _ _ _ _ = Q
  refine lv_iload_n hx hb d_To_name_0 rfl (lv_at hl 1 rfl) ?_
  have hPc : va_P D vwCl [] s.heap := hP.sub (ws' := []) [] rfl
  refine vp_callSi (va_runS (rm := rm_isName) (As := [.int (zI ((n : Nat) : Int))]) (rest := []) ⟨hx, hb, hml, hown, hts⟩ (c_isName l D c ((n : Nat) : Int) (by omega)) (va_cwS 1 hts (gWS k_To_m33 k_s_To_isName k_n_To k_c_To_isName) rfl rfl rfl (by decide +kernel) ⟨Nat.le_of_ble_eq_true rfl, Nat.le_of_ble_eq_true rfl⟩) ⟨zblind, fun U hU hW => ⟨rfl, by rw [hU]; exact hPc, hKN.moved hW⟩⟩ rfl rfl hl.1 rfl (lv_room (Nat.le_of_ble_eq_true rfl)) d_To_name_1 ⟨Nat.zero_le _, Nat.zero_le _⟩).run (fun r hr_1 => ?_)
  subst hr_1
  refine z_ifeq_B (tgt := 28) hx hb d_To_name_4 (by decide) (fun hc_4 => (absurd hc_4 (by rw [decide_eq_true (by omega)]; decide))) (fun hc_4 => ?_)
  refine lv_aload_n hx hb d_To_name_7 rfl (lv_at hl 0 rfl) ?_
  refine va_get (D := D) (ci := 4) (v := .ref d) (C := R_To) (T := T_To) (N := 4) hx hb hts (fun w h => List.mem_cons_of_mem _ (inA_To w h)) hown hK hP 0 rfl rfl 0 (by decide) (hw k_To_f12) (fun _ h9 => h9) rfl d_To_name_8 ?_
  refine lv_iload_n hx hb d_To_name_11 rfl (lv_at hl 1 rfl) ?_
  have hPc : va_P D vwCl [(d, .inr (0, [.ref dn, .ref df, .ref di, .ref dl, .ref dm, .int (zI ((nc : Nat) : Int)), .int (zI ((pp : Nat) : Int))])), (dn, .inl (c 0, 255, .inl (fun j => zI ((nm j : Nat) : Int)))), (dm, .inl (c 1, 40, .inl (fun j => zB (mb j))))] s.heap := hP.sub (ws' := [(d, .inr (0, [.ref dn, .ref df, .ref di, .ref dl, .ref dm, .int (zI ((nc : Nat) : Int)), .int (zI ((pp : Nat) : Int))])), (dn, .inl (c 0, 255, .inl (fun j => zI ((nm j : Nat) : Int)))), (dm, .inl (c 1, 40, .inl (fun j => zB (mb j))))]) [1, 2, 3] rfl
  refine vp_callSi (va_runV (rm := rm_addName_no) (As := [.int (zI ((n : Nat) : Int))]) (rest := []) ⟨hx, hb, hml, hown, hts⟩ (c_addName_no l D c d dn df dfw di diw dl dlw dm nm fw iw lw mb nc pp n (by omega) (by omega) hno) (cwV 1 hts (gWV k_To_m37 k_i_Dr_addName k_v_Dr_addName k_n_Dr k_c_Dr_addName) rfl rfl rfl (by decide +kernel) ⟨Nat.le_of_ble_eq_true rfl, Nat.le_of_ble_eq_true rfl⟩) ⟨zblind, va_recv hK hPc (ci := 0) (q0 := 0) rfl rfl, fun U hU hW => ⟨rfl, by rw [hU]; exact hPc, hKN.moved hW⟩⟩ rfl rfl hl.1 rfl (lv_room (Nat.le_of_ble_eq_true rfl)) d_To_name_12 ⟨Nat.zero_le _, Nat.zero_le _⟩).run (fun r hr_2 => ?_)
  subst hr_2
  refine z_ifeq_B (tgt := 28) hx hb d_To_name_15 (by decide) (fun hc_15 => ?_) (fun hc_15 => (absurd hc_15 (by decide)))
  refine lv_iconst (v := zI (-1)) hx hb d_To_name_28 (by decide) ?_
  subst hQ
  exact W.iret (v := (zI (-1))) hx hb hr (fun t9 ht hW => ⟨_, rfl, rfl, ht⟩) (fun q hq => absurd hq List.not_mem_nil) d_To_name_29

def rm_name : Room := { frames := 4, cells := 0, slots := 0, locals := 88 }
set_option maxHeartbeats 4000000 in
set_option maxRecDepth 100000 in
/-- name -/
theorem c_name (l : Launch) (D : va_G) (c : Nat → ClassId) (x : Nat) (xm : Nat) (rd : Nat) (d : Nat) (dn : Nat) (df : Nat) (dfw : Nat) (di : Nat) (diw : Nat) (dl : Nat) (dlw : Nat) (dm : Nat) (mg : Nat → Option Nat) (mk : Nat) (nm : Nat → Nat) (fw : Nat → Int64) (iw : Nat → Int64) (lw : Nat → Int64) (mb : Nat → Bool) (nc : Nat) (pp : Nat) (n : Nat) (hn_ : 1 ≤ n ∧ n ≤ 1000) (hp : pp < 40) (hc : nc < 255) : Met l y_To_name w_To_name rm_name (va_Pc [.ref x, .int (zI ((n : Nat) : Int))] (fun U => (va_P D vwCl [(x, .inr (4, [.ref d, .ref xm, .ref rd, .int (zI ((mk : Nat) : Int))])), (d, .inr (0, [.ref dn, .ref df, .ref di, .ref dl, .ref dm, .int (zI ((nc : Nat) : Int)), .int (zI ((pp : Nat) : Int))])), (dn, .inl (c 0, 255, .inl (fun j => zI ((nm j : Nat) : Int)))), (df, .inr (3, [.ref dfw])), (dfw, .inl (c 2, 4 * 255, .inr (.inl fw))), (di, .inr (3, [.ref diw])), (diw, .inl (c 2, 4 * 40, .inr (.inl iw))), (dl, .inr (3, [.ref dlw])), (dlw, .inl (c 2, 4 * 40, .inr (.inl lw))), (dm, .inl (c 1, 40, .inl (fun j => zB (mb j))))] U.heap ∧ va_D (fun _ => True) [(x, .inr (4, [.ref d, .ref xm, .ref rd, .int (zI ((mk : Nat) : Int))])), (d, .inr (0, [.ref dn, .ref df, .ref di, .ref dl, .ref dm, .int (zI ((nc : Nat) : Int)), .int (zI ((pp : Nat) : Int))])), (dn, .inl (c 0, 255, .inl (fun j => zI ((nm j : Nat) : Int)))), (df, .inr (3, [.ref dfw])), (dfw, .inl (c 2, 4 * 255, .inr (.inl fw))), (di, .inr (3, [.ref diw])), (diw, .inl (c 2, 4 * 40, .inr (.inl iw))), (dl, .inr (3, [.ref dlw])), (dlw, .inl (c 2, 4 * 40, .inr (.inl lw))), (dm, .inl (c 1, 40, .inl (fun j => zB (mb j))))]) ∧ zK D c U)) (va_Qi (fun (r : Int32) (u : Unit) => r = (zI ((pp + 1 : Nat) : Int)) ∧ True) (fun (u : Unit) t9 => va_P D vwCl [(x, .inr (4, [.ref d, .ref xm, .ref rd, .int (zI ((mk : Nat) : Int))])), (d, .inr (0, [.ref dn, .ref df, .ref di, .ref dl, .ref dm, .int (zI ((nc + 1 : Nat) : Int)), .int (zI ((pp + 1 : Nat) : Int))])), (dn, .inl (c 0, 255, .inl (fun j => zI (((va_up nm nc n) j : Nat) : Int)))), (df, .inr (3, [.ref dfw])), (dfw, .inl (c 2, 4 * 255, .inr (.inl (zclr fw nc)))), (di, .inr (3, [.ref diw])), (diw, .inl (c 2, 4 * 40, .inr (.inl (zadd (zclr iw pp) pp nc)))), (dl, .inr (3, [.ref dlw])), (dlw, .inl (c 2, 4 * 40, .inr (.inl (zadd (zclr lw pp) pp nc)))), (dm, .inl (c 1, 40, .inl (fun j => zB ((va_up mb pp false) j))))] t9.heap) (zA [(x, .inr (4, [.ref d, .ref xm, .ref rd, .int (zI ((mk : Nat) : Int))])), (d, .inr (0, [.ref dn, .ref df, .ref di, .ref dl, .ref dm, .int (zI ((nc : Nat) : Int)), .int (zI ((pp : Nat) : Int))])), (dn, .inl (c 0, 255, .inl (fun j => zI ((nm j : Nat) : Int)))), (df, .inr (3, [.ref dfw])), (dfw, .inl (c 2, 4 * 255, .inr (.inl fw))), (di, .inr (3, [.ref diw])), (diw, .inl (c 2, 4 * 40, .inr (.inl iw))), (dl, .inr (3, [.ref dlw])), (dlw, .inl (c 2, 4 * 40, .inr (.inl lw))), (dm, .inl (c 1, 40, .inl (fun j => zB (mb j))))])) 0 0 (zA [(x, .inr (4, [.ref d, .ref xm, .ref rd, .int (zI ((mk : Nat) : Int))])), (d, .inr (0, [.ref dn, .ref df, .ref di, .ref dl, .ref dm, .int (zI ((nc : Nat) : Int)), .int (zI ((pp : Nat) : Int))])), (dn, .inl (c 0, 255, .inl (fun j => zI ((nm j : Nat) : Int)))), (df, .inr (3, [.ref dfw])), (dfw, .inl (c 2, 4 * 255, .inr (.inl fw))), (di, .inr (3, [.ref diw])), (diw, .inl (c 2, 4 * 40, .inr (.inl iw))), (dl, .inr (3, [.ref dlw])), (dlw, .inl (c 2, 4 * 40, .inr (.inl lw))), (dm, .inl (c 1, 40, .inl (fun j => zB (mb j))))]) := by
  refine Met.ofW (cc := b_To_name) (maxL := 2) (ret := (some .int)) (by decide) rfl ?_
  intro p e s m args below meth c0 s₁ B hml hv
  obtain ⟨rfl, ⟨hP, hD0⟩, hKN⟩ := hv
  have hK := hKN.1
  have hN := hKN.2
  have hx := B.exec
  have hb := B.bytes
  have hr := B.returns
  have hts := atoms_spec (ws := w_To_name) B.pre
  have hw : ∀ {w : Cond}, w ∈ ALLW → w.before _ s = true := fun h => hts _ (List.mem_cons_of_mem _ h)
  have hown : s.vm.findClass R_To = some m.cls := findClass_of_methodNamed B.named
  have hlocks := B.notSynchronized
  have hD : va_D (zA [(x, .inr (4, [.ref d, .ref xm, .ref rd, .int (zI ((mk : Nat) : Int))])), (d, .inr (0, [.ref dn, .ref df, .ref di, .ref dl, .ref dm, .int (zI ((nc : Nat) : Int)), .int (zI ((pp : Nat) : Int))])), (dn, .inl (c 0, 255, .inl (fun j => zI ((nm j : Nat) : Int)))), (df, .inr (3, [.ref dfw])), (dfw, .inl (c 2, 4 * 255, .inr (.inl fw))), (di, .inr (3, [.ref diw])), (diw, .inl (c 2, 4 * 40, .inr (.inl iw))), (dl, .inr (3, [.ref dlw])), (dlw, .inl (c 2, 4 * 40, .inr (.inl lw))), (dm, .inl (c 1, 40, .inl (fun j => zB (mb j))))]) [(x, .inr (4, [.ref d, .ref xm, .ref rd, .int (zI ((mk : Nat) : Int))])), (d, .inr (0, [.ref dn, .ref df, .ref di, .ref dl, .ref dm, .int (zI ((nc : Nat) : Int)), .int (zI ((pp : Nat) : Int))])), (dn, .inl (c 0, 255, .inl (fun j => zI ((nm j : Nat) : Int)))), (df, .inr (3, [.ref dfw])), (dfw, .inl (c 2, 4 * 255, .inr (.inl fw))), (di, .inr (3, [.ref diw])), (diw, .inl (c 2, 4 * 40, .inr (.inl iw))), (dl, .inr (3, [.ref dlw])), (dlw, .inl (c 2, 4 * 40, .inr (.inl lw))), (dm, .inl (c 1, 40, .inl (fun j => zB (mb j))))] := ⟨hD0.1, fun k q h => List.mem_map.mpr ⟨q, List.mem_of_getElem? h, rfl⟩⟩
  generalize hAe : zA [(x, .inr (4, [.ref d, .ref xm, .ref rd, .int (zI ((mk : Nat) : Int))])), (d, .inr (0, [.ref dn, .ref df, .ref di, .ref dl, .ref dm, .int (zI ((nc : Nat) : Int)), .int (zI ((pp : Nat) : Int))])), (dn, .inl (c 0, 255, .inl (fun j => zI ((nm j : Nat) : Int)))), (df, .inr (3, [.ref dfw])), (dfw, .inl (c 2, 4 * 255, .inr (.inl fw))), (di, .inr (3, [.ref diw])), (diw, .inl (c 2, 4 * 40, .inr (.inl iw))), (dl, .inr (3, [.ref dlw])), (dlw, .inl (c 2, 4 * 40, .inr (.inl lw))), (dm, .inl (c 1, 40, .inl (fun j => zB (mb j))))] = A at hD ⊢
  have hS : va_S A s.heap s.heap [] := va_S.rf
  have hP : va_P D vwCl [(x, .inr (4, [.ref d, .ref xm, .ref rd, .int (zI ((mk : Nat) : Int))])), (d, .inr (0, [.ref dn, .ref df, .ref di, .ref dl, .ref dm, .int (zI ((nc : Nat) : Int)), .int (zI ((pp : Nat) : Int))])), (dn, .inl (c 0, 255, .inl (fun j => zI ((nm j : Nat) : Int)))), (df, .inr (3, [.ref dfw])), (dfw, .inl (c 2, 4 * 255, .inr (.inl fw))), (di, .inr (3, [.ref diw])), (diw, .inl (c 2, 4 * 40, .inr (.inl iw))), (dl, .inr (3, [.ref dlw])), (dlw, .inl (c 2, 4 * 40, .inr (.inl lw))), (dm, .inl (c 1, 40, .inl (fun j => zB (mb j))))] s.heap := hP
  have hl := lv_entry ([.ref x, .int (zI ((n : Nat) : Int))]) (n := 2) (Nat.le_of_ble_eq_true rfl)
  rw [lg_entry_eq]
  generalize (lg_sl ([.ref x, .int (zI ((n : Nat) : Int))]) ++ List.replicate (2 - (lg_sl ([.ref x, .int (zI ((n : Nat) : Int))])).length) Slot.unset).toArray = ls at hl ⊢
  have hl : lv_has ls 2 [(0, .ref x), (1, .int (zI ((n : Nat) : Int)))] := hl
  generalize hQ : MQ below _ _ _ _ _ _ = Q
  refine lv_iload_n hx hb d_To_name_0 rfl (lv_at hl 1 rfl) ?_
  have hPc : va_P D vwCl [] s.heap := hP.sub (ws' := []) [] rfl
  refine vp_callSi (va_runS (rm := rm_isName) (As := [.int (zI ((n : Nat) : Int))]) (rest := []) ⟨hx, hb, hml, hown, hts⟩ (c_isName l D c ((n : Nat) : Int) (by omega)) (va_cwS 1 hts (gWS k_To_m33 k_s_To_isName k_n_To k_c_To_isName) rfl rfl rfl (by decide +kernel) ⟨Nat.le_of_ble_eq_true rfl, Nat.le_of_ble_eq_true rfl⟩) ⟨zblind, fun U hU hW => ⟨rfl, by rw [hU]; exact hPc, hKN.moved hW⟩⟩ rfl rfl hl.1 rfl (lv_room (Nat.le_of_ble_eq_true rfl)) d_To_name_1 ⟨Nat.zero_le _, Nat.zero_le _⟩).run (fun r hr_1 => ?_)
  subst hr_1
  refine z_ifeq_B (tgt := 28) hx hb d_To_name_4 (by decide) (fun hc_4 => (absurd hc_4 (by rw [decide_eq_true (by omega)]; decide))) (fun hc_4 => ?_)
  refine lv_aload_n hx hb d_To_name_7 rfl (lv_at hl 0 rfl) ?_
  refine va_get (D := D) (ci := 4) (v := .ref d) (C := R_To) (T := T_To) (N := 4) hx hb hts (fun w h => List.mem_cons_of_mem _ (inA_To w h)) hown hK hP 0 rfl rfl 0 (by decide) (hw k_To_f12) (fun _ h9 => h9) rfl d_To_name_8 ?_
  refine lv_iload_n hx hb d_To_name_11 rfl (lv_at hl 1 rfl) ?_
  have hPc : va_P D vwCl [(d, .inr (0, [.ref dn, .ref df, .ref di, .ref dl, .ref dm, .int (zI ((nc : Nat) : Int)), .int (zI ((pp : Nat) : Int))])), (dn, .inl (c 0, 255, .inl (fun j => zI ((nm j : Nat) : Int)))), (df, .inr (3, [.ref dfw])), (dfw, .inl (c 2, 4 * 255, .inr (.inl fw))), (di, .inr (3, [.ref diw])), (diw, .inl (c 2, 4 * 40, .inr (.inl iw))), (dl, .inr (3, [.ref dlw])), (dlw, .inl (c 2, 4 * 40, .inr (.inl lw))), (dm, .inl (c 1, 40, .inl (fun j => zB (mb j))))] s.heap := hP.sub (ws' := [(d, .inr (0, [.ref dn, .ref df, .ref di, .ref dl, .ref dm, .int (zI ((nc : Nat) : Int)), .int (zI ((pp : Nat) : Int))])), (dn, .inl (c 0, 255, .inl (fun j => zI ((nm j : Nat) : Int)))), (df, .inr (3, [.ref dfw])), (dfw, .inl (c 2, 4 * 255, .inr (.inl fw))), (di, .inr (3, [.ref diw])), (diw, .inl (c 2, 4 * 40, .inr (.inl iw))), (dl, .inr (3, [.ref dlw])), (dlw, .inl (c 2, 4 * 40, .inr (.inl lw))), (dm, .inl (c 1, 40, .inl (fun j => zB (mb j))))]) [1, 2, 3, 4, 5, 6, 7, 8, 9] rfl
  have hDc : va_D A [(d, .inr (0, [.ref dn, .ref df, .ref di, .ref dl, .ref dm, .int (zI ((nc : Nat) : Int)), .int (zI ((pp : Nat) : Int))])), (dn, .inl (c 0, 255, .inl (fun j => zI ((nm j : Nat) : Int)))), (df, .inr (3, [.ref dfw])), (dfw, .inl (c 2, 4 * 255, .inr (.inl fw))), (di, .inr (3, [.ref diw])), (diw, .inl (c 2, 4 * 40, .inr (.inl iw))), (dl, .inr (3, [.ref dlw])), (dlw, .inl (c 2, 4 * 40, .inr (.inl lw))), (dm, .inl (c 1, 40, .inl (fun j => zB (mb j))))] := hD.sub (ws' := [(d, .inr (0, [.ref dn, .ref df, .ref di, .ref dl, .ref dm, .int (zI ((nc : Nat) : Int)), .int (zI ((pp : Nat) : Int))])), (dn, .inl (c 0, 255, .inl (fun j => zI ((nm j : Nat) : Int)))), (df, .inr (3, [.ref dfw])), (dfw, .inl (c 2, 4 * 255, .inr (.inl fw))), (di, .inr (3, [.ref diw])), (diw, .inl (c 2, 4 * 40, .inr (.inl iw))), (dl, .inr (3, [.ref dlw])), (dlw, .inl (c 2, 4 * 40, .inr (.inl lw))), (dm, .inl (c 1, 40, .inl (fun j => zB (mb j))))]) [1, 2, 3, 4, 5, 6, 7, 8, 9] (by decide) rfl
  have hDt : va_D (fun _ => True) [(d, .inr (0, [.ref dn, .ref df, .ref di, .ref dl, .ref dm, .int (zI ((nc : Nat) : Int)), .int (zI ((pp : Nat) : Int))])), (dn, .inl (c 0, 255, .inl (fun j => zI ((nm j : Nat) : Int)))), (df, .inr (3, [.ref dfw])), (dfw, .inl (c 2, 4 * 255, .inr (.inl fw))), (di, .inr (3, [.ref diw])), (diw, .inl (c 2, 4 * 40, .inr (.inl iw))), (dl, .inr (3, [.ref dlw])), (dlw, .inl (c 2, 4 * 40, .inr (.inl lw))), (dm, .inl (c 1, 40, .inl (fun j => zB (mb j))))] := hDc.weaken (fun _ _ _ _ => trivial)
  refine z_calli (S := Unit) (w1 := fun u => [(d, .inr (0, [.ref dn, .ref df, .ref di, .ref dl, .ref dm, .int (zI ((nc + 1 : Nat) : Int)), .int (zI ((pp + 1 : Nat) : Int))])), (dn, .inl (c 0, 255, .inl (fun j => zI (((va_up nm nc n) j : Nat) : Int)))), (df, .inr (3, [.ref dfw])), (dfw, .inl (c 2, 4 * 255, .inr (.inl (zclr fw nc)))), (di, .inr (3, [.ref diw])), (diw, .inl (c 2, 4 * 40, .inr (.inl (zadd (zclr iw pp) pp nc)))), (dl, .inr (3, [.ref dlw])), (dlw, .inl (c 2, 4 * 40, .inr (.inl (zadd (zclr lw pp) pp nc)))), (dm, .inl (c 1, 40, .inl (fun j => zB ((va_up mb pp false) j))))]) (post := fun r u => r = (zB true) ∧ True) (wc := [(d, .inr (0, [.ref dn, .ref df, .ref di, .ref dl, .ref dm, .int (zI ((nc : Nat) : Int)), .int (zI ((pp : Nat) : Int))])), (dn, .inl (c 0, 255, .inl (fun j => zI ((nm j : Nat) : Int)))), (df, .inr (3, [.ref dfw])), (dfw, .inl (c 2, 4 * 255, .inr (.inl fw))), (di, .inr (3, [.ref diw])), (diw, .inl (c 2, 4 * 40, .inr (.inl iw))), (dl, .inr (3, [.ref dlw])), (dlw, .inl (c 2, 4 * 40, .inr (.inl lw))), (dm, .inl (c 1, 40, .inl (fun j => zB (mb j))))]) [1, 2, 3, 4, 5, 6, 7, 8, 9] rfl (fun _ => rfl) hP hD hS (va_runV (rm := rm_addName) (As := [.int (zI ((n : Nat) : Int))]) (rest := []) ⟨hx, hb, hml, hown, hts⟩ (c_addName l D c d dn df dfw di diw dl dlw dm nm fw iw lw mb nc pp n (by omega) (by omega)) (cwV 1 hts (gWV k_To_m37 k_i_Dr_addName k_v_Dr_addName k_n_Dr k_c_Dr_addName) rfl rfl rfl (by decide +kernel) ⟨Nat.le_of_ble_eq_true rfl, Nat.le_of_ble_eq_true rfl⟩) ⟨zblindW, va_recv hK hPc (ci := 0) (q0 := 0) rfl rfl, fun U hU hW => ⟨rfl, ⟨by rw [hU]; exact hPc, hDt⟩, hKN.moved hW⟩⟩ rfl rfl hl.1 rfl (lv_room (Nat.le_of_ble_eq_true rfl)) d_To_name_12 ⟨Nat.zero_le _, Nat.zero_le _⟩) (fun r u H locs hp_2 hP hD hS => ?_)
  obtain ⟨hr_2, hp_2⟩ := hp_2
  subst hr_2
  have hP : va_P D vwCl [(x, .inr (4, [.ref d, .ref xm, .ref rd, .int (zI ((mk : Nat) : Int))])), (d, .inr (0, [.ref dn, .ref df, .ref di, .ref dl, .ref dm, .int (zI ((nc + 1 : Nat) : Int)), .int (zI ((pp + 1 : Nat) : Int))])), (dn, .inl (c 0, 255, .inl (fun j => zI (((va_up nm nc n) j : Nat) : Int)))), (df, .inr (3, [.ref dfw])), (dfw, .inl (c 2, 4 * 255, .inr (.inl (zclr fw nc)))), (di, .inr (3, [.ref diw])), (diw, .inl (c 2, 4 * 40, .inr (.inl (zadd (zclr iw pp) pp nc)))), (dl, .inr (3, [.ref dlw])), (dlw, .inl (c 2, 4 * 40, .inr (.inl (zadd (zclr lw pp) pp nc)))), (dm, .inl (c 1, 40, .inl (fun j => zB ((va_up mb pp false) j))))] H := hP
  have hD : va_D A [(x, .inr (4, [.ref d, .ref xm, .ref rd, .int (zI ((mk : Nat) : Int))])), (d, .inr (0, [.ref dn, .ref df, .ref di, .ref dl, .ref dm, .int (zI ((nc + 1 : Nat) : Int)), .int (zI ((pp + 1 : Nat) : Int))])), (dn, .inl (c 0, 255, .inl (fun j => zI (((va_up nm nc n) j : Nat) : Int)))), (df, .inr (3, [.ref dfw])), (dfw, .inl (c 2, 4 * 255, .inr (.inl (zclr fw nc)))), (di, .inr (3, [.ref diw])), (diw, .inl (c 2, 4 * 40, .inr (.inl (zadd (zclr iw pp) pp nc)))), (dl, .inr (3, [.ref dlw])), (dlw, .inl (c 2, 4 * 40, .inr (.inl (zadd (zclr lw pp) pp nc)))), (dm, .inl (c 1, 40, .inl (fun j => zB ((va_up mb pp false) j))))] := hD
  refine z_ifeq_B (tgt := 28) hx hb d_To_name_15 (by decide) (fun hc_15 => (absurd hc_15 (by decide))) (fun hc_15 => ?_)
  refine lv_aload_n hx hb d_To_name_18 rfl (lv_at hl 0 rfl) ?_
  refine va_get (D := D) (ci := 4) (v := .ref d) (C := R_To) (T := T_To) (N := 4) hx hb hts (fun w h => List.mem_cons_of_mem _ (inA_To w h)) hown hK hP 0 rfl rfl 0 (by decide) (hw k_To_f12) (fun _ h9 => h9) rfl d_To_name_19 ?_
  refine va_getN (D := D) (ci := 0) (v := .int (zI ((pp + 1 : Nat) : Int))) (C := R_Dr) (T := T_Dr) (N := 7) hx hb hts (fun w h => List.mem_cons_of_mem _ (inA_Dr w h)) hown hK hP 1 rfl rfl 6 (by decide) (va_Nw.use rfl hN.2.1) (fun _ h9 => h9) rfl d_To_name_22 ?_
  refine lv_goto (tgt := 29) hx hb d_To_name_25 (by decide) ?_
  subst hQ
  exact W.iret (v := (zI ((pp + 1 : Nat) : Int))) hx hb hr (fun t9 ht hW => ⟨⟨_, (), rfl, ⟨rfl, trivial⟩, by show va_P _ _ _ t9.heap; rw [ht]; exact hP⟩, hS.F ht⟩) hS.2.2 d_To_name_29

def rm_row_no : Room := { frames := 2, cells := 0, slots := 0, locals := 43 }
set_option maxHeartbeats 4000000 in
set_option maxRecDepth 100000 in
/-- row, refused -/
theorem c_row_no (l : Launch) (D : va_G) (c : Nat → ClassId) (x : Nat) (xm : Nat) (rd : Nat) (d : Nat) (dn : Nat) (df : Nat) (dfw : Nat) (di : Nat) (diw : Nat) (dl : Nat) (dlw : Nat) (dm : Nat) (mg : Nat → Option Nat) (mk : Nat) (nm : Nat → Nat) (fw : Nat → Int64) (iw : Nat → Int64) (lw : Nat → Int64) (mb : Nat → Bool) (nc : Nat) (pp : Nat) (hp : pp < 2) : Met l y_To_row w_To_row rm_row_no (va_Pc [.ref x] (fun U => va_P D vwCl [(x, .inr (4, [.ref d, .ref xm, .ref rd, .int (zI ((mk : Nat) : Int))])), (d, .inr (0, [.ref dn, .ref df, .ref di, .ref dl, .ref dm, .int (zI ((nc : Nat) : Int)), .int (zI ((pp : Nat) : Int))])), (dm, .inl (c 1, 40, .inl (fun j => zB (mb j))))] U.heap ∧ zK D c U)) (vp_Si (fun r => r = (zI (-1)))) 0 0 (fun _ => False) := by
  refine Met.ofW (cc := b_To_row) (maxL := 1) (ret := (some .int)) (by decide) rfl ?_
  intro p e s m args below meth c0 s₁ B hml hv
  obtain ⟨rfl, hP, hKN⟩ := hv
  have hK := hKN.1
  have hN := hKN.2
  have hx := B.exec
  have hb := B.bytes
  have hr := B.returns
  have hts := atoms_spec (ws := w_To_row) B.pre
  have hw : ∀ {w : Cond}, w ∈ ALLW → w.before _ s = true := fun h => hts _ (List.mem_cons_of_mem _ h)
  have hown : s.vm.findClass R_To = some m.cls := findClass_of_methodNamed B.named
  have hlocks := B.notSynchronized
  have hl := lv_entry ([.ref x]) (n := 1) (Nat.le_of_ble_eq_true rfl)
  rw [lg_entry_eq]
  generalize (lg_sl ([.ref x]) ++ List.replicate (1 - (lg_sl ([.ref x])).length) Slot.unset).toArray = ls at hl ⊢
  have hl : lv_has ls 1 [(0, .ref x)] := hl
  generalize hQ : MQ below _ _ _ _ _ _ = Q
  refine lv_aload_n hx hb d_To_row_0 rfl (lv_at hl 0 rfl) ?_
  refine va_get (D := D) (ci := 4) (v := .ref d) (C := R_To) (T := T_To) (N := 4) hx hb hts (fun w h => List.mem_cons_of_mem _ (inA_To w h)) hown hK hP 0 rfl rfl 0 (by decide) (hw k_To_f12) (fun _ h9 => h9) rfl d_To_row_1 ?_
  have hPc : va_P D vwCl [(d, .inr (0, [.ref dn, .ref df, .ref di, .ref dl, .ref dm, .int (zI ((nc : Nat) : Int)), .int (zI ((pp : Nat) : Int))])), (dm, .inl (c 1, 40, .inl (fun j => zB (mb j))))] s.heap := hP.sub (ws' := [(d, .inr (0, [.ref dn, .ref df, .ref di, .ref dl, .ref dm, .int (zI ((nc : Nat) : Int)), .int (zI ((pp : Nat) : Int))])), (dm, .inl (c 1, 40, .inl (fun j => zB (mb j))))]) [1, 2] rfl
  refine vp_callSi (va_runV (rm := rm_joinToRow_no) (As := []) (rest := []) ⟨hx, hb, hml, hown, hts⟩ (c_joinToRow_no l D c d dn df dfw di diw dl dlw dm nm fw iw lw mb nc pp (by omega)) (cwV 0 hts (gWV k_To_m43 k_i_Dr_joinToRow k_v_Dr_joinToRow k_n_Dr k_c_Dr_joinToRow) rfl rfl rfl (by decide +kernel) ⟨Nat.le_of_ble_eq_true rfl, Nat.le_of_ble_eq_true rfl⟩) ⟨zblind, va_recv hK hPc (ci := 0) (q0 := 0) rfl rfl, fun U hU hW => ⟨rfl, by rw [hU]; exact hPc, hKN.moved hW⟩⟩ rfl rfl hl.1 rfl (lv_room (Nat.le_of_ble_eq_true rfl)) d_To_row_4 ⟨Nat.zero_le _, Nat.zero_le _⟩).run (fun r hr_1 => ?_)
  subst hr_1
  refine z_ifeq_B (tgt := 20) hx hb d_To_row_7 (by decide) (fun hc_7 => ?_) (fun hc_7 => (absurd hc_7 (by decide)))
  refine lv_iconst (v := zI (-1)) hx hb d_To_row_20 (by decide) ?_
  subst hQ
  exact W.iret (v := (zI (-1))) hx hb hr (fun t9 ht hW => ⟨_, rfl, rfl, ht⟩) (fun q hq => absurd hq List.not_mem_nil) d_To_row_21

def rm_row : Room := { frames := 5, cells := 0, slots := 0, locals := 110 }
set_option maxHeartbeats 4000000 in
set_option maxRecDepth 100000 in
/-- row -/
theorem c_row (l : Launch) (D : va_G) (c : Nat → ClassId) (x : Nat) (xm : Nat) (rd : Nat) (d : Nat) (dn : Nat) (df : Nat) (dfw : Nat) (di : Nat) (diw : Nat) (dl : Nat) (dlw : Nat) (dm : Nat) (mg : Nat → Option Nat) (mk : Nat) (nm : Nat → Nat) (fw : Nat → Int64) (iw : Nat → Int64) (lw : Nat → Int64) (mb : Nat → Bool) (nc : Nat) (q : Nat) (hp : q + 2 ≤ 40) (hc : nc ≤ 255) : Met l y_To_row w_To_row rm_row (va_Pc [.ref x] (fun U => (va_P D vwCl [(x, .inr (4, [.ref d, .ref xm, .ref rd, .int (zI ((mk : Nat) : Int))])), (d, .inr (0, [.ref dn, .ref df, .ref di, .ref dl, .ref dm, .int (zI ((nc : Nat) : Int)), .int (zI ((q + 2 : Nat) : Int))])), (df, .inr (3, [.ref dfw])), (dfw, .inl (c 2, 4 * 255, .inr (.inl fw))), (di, .inr (3, [.ref diw])), (diw, .inl (c 2, 4 * 40, .inr (.inl iw))), (dl, .inr (3, [.ref dlw])), (dlw, .inl (c 2, 4 * 40, .inr (.inl lw))), (dm, .inl (c 1, 40, .inl (fun j => zB (mb j))))] U.heap ∧ va_D (fun _ => True) [(x, .inr (4, [.ref d, .ref xm, .ref rd, .int (zI ((mk : Nat) : Int))])), (d, .inr (0, [.ref dn, .ref df, .ref di, .ref dl, .ref dm, .int (zI ((nc : Nat) : Int)), .int (zI ((q + 2 : Nat) : Int))])), (df, .inr (3, [.ref dfw])), (dfw, .inl (c 2, 4 * 255, .inr (.inl fw))), (di, .inr (3, [.ref diw])), (diw, .inl (c 2, 4 * 40, .inr (.inl iw))), (dl, .inr (3, [.ref dlw])), (dlw, .inl (c 2, 4 * 40, .inr (.inl lw))), (dm, .inl (c 1, 40, .inl (fun j => zB (mb j))))]) ∧ zK D c U)) (va_Qi (fun (r : Int32) (u : Unit) => r = (zI ((q + 1 : Nat) : Int)) ∧ True) (fun (u : Unit) t9 => va_P D vwCl [(x, .inr (4, [.ref d, .ref xm, .ref rd, .int (zI ((mk : Nat) : Int))])), (d, .inr (0, [.ref dn, .ref df, .ref di, .ref dl, .ref dm, .int (zI ((nc : Nat) : Int)), .int (zI ((q + 1 : Nat) : Int))])), (df, .inr (3, [.ref dfw])), (dfw, .inl (c 2, 4 * 255, .inr (.inl (lfw fw iw lw q (q + 1) nc)))), (di, .inr (3, [.ref diw])), (diw, .inl (c 2, 4 * 40, .inr (.inl (jrI iw mb q)))), (dl, .inr (3, [.ref dlw])), (dlw, .inl (c 2, 4 * 40, .inr (.inl (zor (jrL0 lw mb q) q (jrL0 lw mb q) (q + 1))))), (dm, .inl (c 1, 40, .inl (fun j => zB ((va_up mb q (mb q && mb (q + 1))) j))))] t9.heap) (zA [(x, .inr (4, [.ref d, .ref xm, .ref rd, .int (zI ((mk : Nat) : Int))])), (d, .inr (0, [.ref dn, .ref df, .ref di, .ref dl, .ref dm, .int (zI ((nc : Nat) : Int)), .int (zI ((q + 2 : Nat) : Int))])), (df, .inr (3, [.ref dfw])), (dfw, .inl (c 2, 4 * 255, .inr (.inl fw))), (di, .inr (3, [.ref diw])), (diw, .inl (c 2, 4 * 40, .inr (.inl iw))), (dl, .inr (3, [.ref dlw])), (dlw, .inl (c 2, 4 * 40, .inr (.inl lw))), (dm, .inl (c 1, 40, .inl (fun j => zB (mb j))))])) 0 0 (zA [(x, .inr (4, [.ref d, .ref xm, .ref rd, .int (zI ((mk : Nat) : Int))])), (d, .inr (0, [.ref dn, .ref df, .ref di, .ref dl, .ref dm, .int (zI ((nc : Nat) : Int)), .int (zI ((q + 2 : Nat) : Int))])), (df, .inr (3, [.ref dfw])), (dfw, .inl (c 2, 4 * 255, .inr (.inl fw))), (di, .inr (3, [.ref diw])), (diw, .inl (c 2, 4 * 40, .inr (.inl iw))), (dl, .inr (3, [.ref dlw])), (dlw, .inl (c 2, 4 * 40, .inr (.inl lw))), (dm, .inl (c 1, 40, .inl (fun j => zB (mb j))))]) := by
  refine Met.ofW (cc := b_To_row) (maxL := 1) (ret := (some .int)) (by decide) rfl ?_
  intro p e s m args below meth c0 s₁ B hml hv
  obtain ⟨rfl, ⟨hP, hD0⟩, hKN⟩ := hv
  have hK := hKN.1
  have hN := hKN.2
  have hx := B.exec
  have hb := B.bytes
  have hr := B.returns
  have hts := atoms_spec (ws := w_To_row) B.pre
  have hw : ∀ {w : Cond}, w ∈ ALLW → w.before _ s = true := fun h => hts _ (List.mem_cons_of_mem _ h)
  have hown : s.vm.findClass R_To = some m.cls := findClass_of_methodNamed B.named
  have hlocks := B.notSynchronized
  have hD : va_D (zA [(x, .inr (4, [.ref d, .ref xm, .ref rd, .int (zI ((mk : Nat) : Int))])), (d, .inr (0, [.ref dn, .ref df, .ref di, .ref dl, .ref dm, .int (zI ((nc : Nat) : Int)), .int (zI ((q + 2 : Nat) : Int))])), (df, .inr (3, [.ref dfw])), (dfw, .inl (c 2, 4 * 255, .inr (.inl fw))), (di, .inr (3, [.ref diw])), (diw, .inl (c 2, 4 * 40, .inr (.inl iw))), (dl, .inr (3, [.ref dlw])), (dlw, .inl (c 2, 4 * 40, .inr (.inl lw))), (dm, .inl (c 1, 40, .inl (fun j => zB (mb j))))]) [(x, .inr (4, [.ref d, .ref xm, .ref rd, .int (zI ((mk : Nat) : Int))])), (d, .inr (0, [.ref dn, .ref df, .ref di, .ref dl, .ref dm, .int (zI ((nc : Nat) : Int)), .int (zI ((q + 2 : Nat) : Int))])), (df, .inr (3, [.ref dfw])), (dfw, .inl (c 2, 4 * 255, .inr (.inl fw))), (di, .inr (3, [.ref diw])), (diw, .inl (c 2, 4 * 40, .inr (.inl iw))), (dl, .inr (3, [.ref dlw])), (dlw, .inl (c 2, 4 * 40, .inr (.inl lw))), (dm, .inl (c 1, 40, .inl (fun j => zB (mb j))))] := ⟨hD0.1, fun k q h => List.mem_map.mpr ⟨q, List.mem_of_getElem? h, rfl⟩⟩
  generalize hAe : zA [(x, .inr (4, [.ref d, .ref xm, .ref rd, .int (zI ((mk : Nat) : Int))])), (d, .inr (0, [.ref dn, .ref df, .ref di, .ref dl, .ref dm, .int (zI ((nc : Nat) : Int)), .int (zI ((q + 2 : Nat) : Int))])), (df, .inr (3, [.ref dfw])), (dfw, .inl (c 2, 4 * 255, .inr (.inl fw))), (di, .inr (3, [.ref diw])), (diw, .inl (c 2, 4 * 40, .inr (.inl iw))), (dl, .inr (3, [.ref dlw])), (dlw, .inl (c 2, 4 * 40, .inr (.inl lw))), (dm, .inl (c 1, 40, .inl (fun j => zB (mb j))))] = A at hD ⊢
  have hS : va_S A s.heap s.heap [] := va_S.rf
  have hP : va_P D vwCl [(x, .inr (4, [.ref d, .ref xm, .ref rd, .int (zI ((mk : Nat) : Int))])), (d, .inr (0, [.ref dn, .ref df, .ref di, .ref dl, .ref dm, .int (zI ((nc : Nat) : Int)), .int (zI ((q + 2 : Nat) : Int))])), (df, .inr (3, [.ref dfw])), (dfw, .inl (c 2, 4 * 255, .inr (.inl fw))), (di, .inr (3, [.ref diw])), (diw, .inl (c 2, 4 * 40, .inr (.inl iw))), (dl, .inr (3, [.ref dlw])), (dlw, .inl (c 2, 4 * 40, .inr (.inl lw))), (dm, .inl (c 1, 40, .inl (fun j => zB (mb j))))] s.heap := hP
  have hl := lv_entry ([.ref x]) (n := 1) (Nat.le_of_ble_eq_true rfl)
  rw [lg_entry_eq]
  generalize (lg_sl ([.ref x]) ++ List.replicate (1 - (lg_sl ([.ref x])).length) Slot.unset).toArray = ls at hl ⊢
  have hl : lv_has ls 1 [(0, .ref x)] := hl
  generalize hQ : MQ below _ _ _ _ _ _ = Q
  refine lv_aload_n hx hb d_To_row_0 rfl (lv_at hl 0 rfl) ?_
  refine va_get (D := D) (ci := 4) (v := .ref d) (C := R_To) (T := T_To) (N := 4) hx hb hts (fun w h => List.mem_cons_of_mem _ (inA_To w h)) hown hK hP 0 rfl rfl 0 (by decide) (hw k_To_f12) (fun _ h9 => h9) rfl d_To_row_1 ?_
  have hPc : va_P D vwCl [(d, .inr (0, [.ref dn, .ref df, .ref di, .ref dl, .ref dm, .int (zI ((nc : Nat) : Int)), .int (zI ((q + 2 : Nat) : Int))])), (df, .inr (3, [.ref dfw])), (dfw, .inl (c 2, 4 * 255, .inr (.inl fw))), (di, .inr (3, [.ref diw])), (diw, .inl (c 2, 4 * 40, .inr (.inl iw))), (dl, .inr (3, [.ref dlw])), (dlw, .inl (c 2, 4 * 40, .inr (.inl lw))), (dm, .inl (c 1, 40, .inl (fun j => zB (mb j))))] s.heap := hP.sub (ws' := [(d, .inr (0, [.ref dn, .ref df, .ref di, .ref dl, .ref dm, .int (zI ((nc : Nat) : Int)), .int (zI ((q + 2 : Nat) : Int))])), (df, .inr (3, [.ref dfw])), (dfw, .inl (c 2, 4 * 255, .inr (.inl fw))), (di, .inr (3, [.ref diw])), (diw, .inl (c 2, 4 * 40, .inr (.inl iw))), (dl, .inr (3, [.ref dlw])), (dlw, .inl (c 2, 4 * 40, .inr (.inl lw))), (dm, .inl (c 1, 40, .inl (fun j => zB (mb j))))]) [1, 2, 3, 4, 5, 6, 7, 8] rfl
  have hDc : va_D A [(d, .inr (0, [.ref dn, .ref df, .ref di, .ref dl, .ref dm, .int (zI ((nc : Nat) : Int)), .int (zI ((q + 2 : Nat) : Int))])), (df, .inr (3, [.ref dfw])), (dfw, .inl (c 2, 4 * 255, .inr (.inl fw))), (di, .inr (3, [.ref diw])), (diw, .inl (c 2, 4 * 40, .inr (.inl iw))), (dl, .inr (3, [.ref dlw])), (dlw, .inl (c 2, 4 * 40, .inr (.inl lw))), (dm, .inl (c 1, 40, .inl (fun j => zB (mb j))))] := hD.sub (ws' := [(d, .inr (0, [.ref dn, .ref df, .ref di, .ref dl, .ref dm, .int (zI ((nc : Nat) : Int)), .int (zI ((q + 2 : Nat) : Int))])), (df, .inr (3, [.ref dfw])), (dfw, .inl (c 2, 4 * 255, .inr (.inl fw))), (di, .inr (3, [.ref diw])), (diw, .inl (c 2, 4 * 40, .inr (.inl iw))), (dl, .inr (3, [.ref dlw])), (dlw, .inl (c 2, 4 * 40, .inr (.inl lw))), (dm, .inl (c 1, 40, .inl (fun j => zB (mb j))))]) [1, 2, 3, 4, 5, 6, 7, 8] (by decide) rfl
  have hDt : va_D (fun _ => True) [(d, .inr (0, [.ref dn, .ref df, .ref di, .ref dl, .ref dm, .int (zI ((nc : Nat) : Int)), .int (zI ((q + 2 : Nat) : Int))])), (df, .inr (3, [.ref dfw])), (dfw, .inl (c 2, 4 * 255, .inr (.inl fw))), (di, .inr (3, [.ref diw])), (diw, .inl (c 2, 4 * 40, .inr (.inl iw))), (dl, .inr (3, [.ref dlw])), (dlw, .inl (c 2, 4 * 40, .inr (.inl lw))), (dm, .inl (c 1, 40, .inl (fun j => zB (mb j))))] := hDc.weaken (fun _ _ _ _ => trivial)
  refine z_calli (S := Unit) (w1 := fun u => [(d, .inr (0, [.ref dn, .ref df, .ref di, .ref dl, .ref dm, .int (zI ((nc : Nat) : Int)), .int (zI ((q + 1 : Nat) : Int))])), (df, .inr (3, [.ref dfw])), (dfw, .inl (c 2, 4 * 255, .inr (.inl (lfw fw iw lw q (q + 1) nc)))), (di, .inr (3, [.ref diw])), (diw, .inl (c 2, 4 * 40, .inr (.inl (jrI iw mb q)))), (dl, .inr (3, [.ref dlw])), (dlw, .inl (c 2, 4 * 40, .inr (.inl (zor (jrL0 lw mb q) q (jrL0 lw mb q) (q + 1))))), (dm, .inl (c 1, 40, .inl (fun j => zB ((va_up mb q (mb q && mb (q + 1))) j))))]) (post := fun r u => r = (zB true) ∧ True) (wc := [(d, .inr (0, [.ref dn, .ref df, .ref di, .ref dl, .ref dm, .int (zI ((nc : Nat) : Int)), .int (zI ((q + 2 : Nat) : Int))])), (df, .inr (3, [.ref dfw])), (dfw, .inl (c 2, 4 * 255, .inr (.inl fw))), (di, .inr (3, [.ref diw])), (diw, .inl (c 2, 4 * 40, .inr (.inl iw))), (dl, .inr (3, [.ref dlw])), (dlw, .inl (c 2, 4 * 40, .inr (.inl lw))), (dm, .inl (c 1, 40, .inl (fun j => zB (mb j))))]) [1, 2, 3, 4, 5, 6, 7, 8] rfl (fun _ => rfl) hP hD hS (va_runV (rm := rm_joinToRow) (As := []) (rest := []) ⟨hx, hb, hml, hown, hts⟩ (c_joinToRow l D c d dn df dfw di diw dl dlw dm nm fw iw lw mb nc q (by omega) (by omega)) (cwV 0 hts (gWV k_To_m43 k_i_Dr_joinToRow k_v_Dr_joinToRow k_n_Dr k_c_Dr_joinToRow) rfl rfl rfl (by decide +kernel) ⟨Nat.le_of_ble_eq_true rfl, Nat.le_of_ble_eq_true rfl⟩) ⟨zblindW, va_recv hK hPc (ci := 0) (q0 := 0) rfl rfl, fun U hU hW => ⟨rfl, ⟨by rw [hU]; exact hPc, hDt⟩, hKN.moved hW⟩⟩ rfl rfl hl.1 rfl (lv_room (Nat.le_of_ble_eq_true rfl)) d_To_row_4 ⟨Nat.zero_le _, Nat.zero_le _⟩) (fun r u H locs hp_1 hP hD hS => ?_)
  obtain ⟨hr_1, hp_1⟩ := hp_1
  subst hr_1
  have hP : va_P D vwCl [(x, .inr (4, [.ref d, .ref xm, .ref rd, .int (zI ((mk : Nat) : Int))])), (d, .inr (0, [.ref dn, .ref df, .ref di, .ref dl, .ref dm, .int (zI ((nc : Nat) : Int)), .int (zI ((q + 1 : Nat) : Int))])), (df, .inr (3, [.ref dfw])), (dfw, .inl (c 2, 4 * 255, .inr (.inl (lfw fw iw lw q (q + 1) nc)))), (di, .inr (3, [.ref diw])), (diw, .inl (c 2, 4 * 40, .inr (.inl (jrI iw mb q)))), (dl, .inr (3, [.ref dlw])), (dlw, .inl (c 2, 4 * 40, .inr (.inl (zor (jrL0 lw mb q) q (jrL0 lw mb q) (q + 1))))), (dm, .inl (c 1, 40, .inl (fun j => zB ((va_up mb q (mb q && mb (q + 1))) j))))] H := hP
  have hD : va_D A [(x, .inr (4, [.ref d, .ref xm, .ref rd, .int (zI ((mk : Nat) : Int))])), (d, .inr (0, [.ref dn, .ref df, .ref di, .ref dl, .ref dm, .int (zI ((nc : Nat) : Int)), .int (zI ((q + 1 : Nat) : Int))])), (df, .inr (3, [.ref dfw])), (dfw, .inl (c 2, 4 * 255, .inr (.inl (lfw fw iw lw q (q + 1) nc)))), (di, .inr (3, [.ref diw])), (diw, .inl (c 2, 4 * 40, .inr (.inl (jrI iw mb q)))), (dl, .inr (3, [.ref dlw])), (dlw, .inl (c 2, 4 * 40, .inr (.inl (zor (jrL0 lw mb q) q (jrL0 lw mb q) (q + 1))))), (dm, .inl (c 1, 40, .inl (fun j => zB ((va_up mb q (mb q && mb (q + 1))) j))))] := hD
  refine z_ifeq_B (tgt := 20) hx hb d_To_row_7 (by decide) (fun hc_7 => (absurd hc_7 (by decide))) (fun hc_7 => ?_)
  refine lv_aload_n hx hb d_To_row_10 rfl (lv_at hl 0 rfl) ?_
  refine va_get (D := D) (ci := 4) (v := .ref d) (C := R_To) (T := T_To) (N := 4) hx hb hts (fun w h => List.mem_cons_of_mem _ (inA_To w h)) hown hK hP 0 rfl rfl 0 (by decide) (hw k_To_f12) (fun _ h9 => h9) rfl d_To_row_11 ?_
  refine va_getN (D := D) (ci := 0) (v := .int (zI ((q + 1 : Nat) : Int))) (C := R_Dr) (T := T_Dr) (N := 7) hx hb hts (fun w h => List.mem_cons_of_mem _ (inA_Dr w h)) hown hK hP 1 rfl rfl 6 (by decide) (va_Nw.use rfl hN.2.1) (fun _ h9 => h9) rfl d_To_row_14 ?_
  refine lv_goto (tgt := 21) hx hb d_To_row_17 (by decide) ?_
  subst hQ
  exact W.iret (v := (zI ((q + 1 : Nat) : Int))) hx hb hr (fun t9 ht hW => ⟨⟨_, (), rfl, ⟨rfl, trivial⟩, by show va_P _ _ _ t9.heap; rw [ht]; exact hP⟩, hS.F ht⟩) hS.2.2 d_To_row_21

def rm_choice_no : Room := { frames := 2, cells := 0, slots := 0, locals := 43 }
set_option maxHeartbeats 4000000 in
set_option maxRecDepth 100000 in
/-- choice, refused -/
theorem c_choice_no (l : Launch) (D : va_G) (c : Nat → ClassId) (x : Nat) (xm : Nat) (rd : Nat) (d : Nat) (dn : Nat) (df : Nat) (dfw : Nat) (di : Nat) (diw : Nat) (dl : Nat) (dlw : Nat) (dm : Nat) (mg : Nat → Option Nat) (mk : Nat) (nm : Nat → Nat) (fw : Nat → Int64) (iw : Nat → Int64) (lw : Nat → Int64) (mb : Nat → Bool) (nc : Nat) (pp : Nat) (hp : pp < 2) : Met l y_To_choice w_To_choice rm_choice_no (va_Pc [.ref x] (fun U => va_P D vwCl [(x, .inr (4, [.ref d, .ref xm, .ref rd, .int (zI ((mk : Nat) : Int))])), (d, .inr (0, [.ref dn, .ref df, .ref di, .ref dl, .ref dm, .int (zI ((nc : Nat) : Int)), .int (zI ((pp : Nat) : Int))])), (dm, .inl (c 1, 40, .inl (fun j => zB (mb j))))] U.heap ∧ zK D c U)) (vp_Si (fun r => r = (zI (-1)))) 0 0 (fun _ => False) := by
  refine Met.ofW (cc := b_To_choice) (maxL := 1) (ret := (some .int)) (by decide) rfl ?_
  intro p e s m args below meth c0 s₁ B hml hv
  obtain ⟨rfl, hP, hKN⟩ := hv
  have hK := hKN.1
  have hN := hKN.2
  have hx := B.exec
  have hb := B.bytes
  have hr := B.returns
  have hts := atoms_spec (ws := w_To_choice) B.pre
  have hw : ∀ {w : Cond}, w ∈ ALLW → w.before _ s = true := fun h => hts _ (List.mem_cons_of_mem _ h)
  have hown : s.vm.findClass R_To = some m.cls := findClass_of_methodNamed B.named
  have hlocks := B.notSynchronized
  have hl := lv_entry ([.ref x]) (n := 1) (Nat.le_of_ble_eq_true rfl)
  rw [lg_entry_eq]
  generalize (lg_sl ([.ref x]) ++ List.replicate (1 - (lg_sl ([.ref x])).length) Slot.unset).toArray = ls at hl ⊢
  have hl : lv_has ls 1 [(0, .ref x)] := hl
  generalize hQ : MQ below _ _ _ _ _ _ = Q
  refine lv_aload_n hx hb d_To_choice_0 rfl (lv_at hl 0 rfl) ?_
  refine va_get (D := D) (ci := 4) (v := .ref d) (C := R_To) (T := T_To) (N := 4) hx hb hts (fun w h => List.mem_cons_of_mem _ (inA_To w h)) hown hK hP 0 rfl rfl 0 (by decide) (hw k_To_f12) (fun _ h9 => h9) rfl d_To_choice_1 ?_
  have hPc : va_P D vwCl [(d, .inr (0, [.ref dn, .ref df, .ref di, .ref dl, .ref dm, .int (zI ((nc : Nat) : Int)), .int (zI ((pp : Nat) : Int))])), (dm, .inl (c 1, 40, .inl (fun j => zB (mb j))))] s.heap := hP.sub (ws' := [(d, .inr (0, [.ref dn, .ref df, .ref di, .ref dl, .ref dm, .int (zI ((nc : Nat) : Int)), .int (zI ((pp : Nat) : Int))])), (dm, .inl (c 1, 40, .inl (fun j => zB (mb j))))]) [1, 2] rfl
  refine vp_callSi (va_runV (rm := rm_joinToChoice_no) (As := []) (rest := []) ⟨hx, hb, hml, hown, hts⟩ (c_joinToChoice_no l D c d dn df dfw di diw dl dlw dm nm fw iw lw mb nc pp (by omega)) (cwV 0 hts (gWV k_To_m47 k_i_Dr_joinToChoice k_v_Dr_joinToChoice k_n_Dr k_c_Dr_joinToChoice) rfl rfl rfl (by decide +kernel) ⟨Nat.le_of_ble_eq_true rfl, Nat.le_of_ble_eq_true rfl⟩) ⟨zblind, va_recv hK hPc (ci := 0) (q0 := 0) rfl rfl, fun U hU hW => ⟨rfl, by rw [hU]; exact hPc, hKN.moved hW⟩⟩ rfl rfl hl.1 rfl (lv_room (Nat.le_of_ble_eq_true rfl)) d_To_choice_4 ⟨Nat.zero_le _, Nat.zero_le _⟩).run (fun r hr_1 => ?_)
  subst hr_1
  refine z_ifeq_B (tgt := 20) hx hb d_To_choice_7 (by decide) (fun hc_7 => ?_) (fun hc_7 => (absurd hc_7 (by decide)))
  refine lv_iconst (v := zI (-1)) hx hb d_To_choice_20 (by decide) ?_
  subst hQ
  exact W.iret (v := (zI (-1))) hx hb hr (fun t9 ht hW => ⟨_, rfl, rfl, ht⟩) (fun q hq => absurd hq List.not_mem_nil) d_To_choice_21

def rm_choice : Room := { frames := 3, cells := 0, slots := 0, locals := 67 }
set_option maxHeartbeats 4000000 in
set_option maxRecDepth 100000 in
/-- choice -/
theorem c_choice (l : Launch) (D : va_G) (c : Nat → ClassId) (x : Nat) (xm : Nat) (rd : Nat) (d : Nat) (dn : Nat) (df : Nat) (dfw : Nat) (di : Nat) (diw : Nat) (dl : Nat) (dlw : Nat) (dm : Nat) (mg : Nat → Option Nat) (mk : Nat) (nm : Nat → Nat) (fw : Nat → Int64) (iw : Nat → Int64) (lw : Nat → Int64) (mb : Nat → Bool) (nc : Nat) (q : Nat) (hp : q + 2 ≤ 40) : Met l y_To_choice w_To_choice rm_choice (va_Pc [.ref x] (fun U => (va_P D vwCl [(x, .inr (4, [.ref d, .ref xm, .ref rd, .int (zI ((mk : Nat) : Int))])), (d, .inr (0, [.ref dn, .ref df, .ref di, .ref dl, .ref dm, .int (zI ((nc : Nat) : Int)), .int (zI ((q + 2 : Nat) : Int))])), (di, .inr (3, [.ref diw])), (diw, .inl (c 2, 4 * 40, .inr (.inl iw))), (dl, .inr (3, [.ref dlw])), (dlw, .inl (c 2, 4 * 40, .inr (.inl lw))), (dm, .inl (c 1, 40, .inl (fun j => zB (mb j))))] U.heap ∧ va_D (fun _ => True) [(x, .inr (4, [.ref d, .ref xm, .ref rd, .int (zI ((mk : Nat) : Int))])), (d, .inr (0, [.ref dn, .ref df, .ref di, .ref dl, .ref dm, .int (zI ((nc : Nat) : Int)), .int (zI ((q + 2 : Nat) : Int))])), (di, .inr (3, [.ref diw])), (diw, .inl (c 2, 4 * 40, .inr (.inl iw))), (dl, .inr (3, [.ref dlw])), (dlw, .inl (c 2, 4 * 40, .inr (.inl lw))), (dm, .inl (c 1, 40, .inl (fun j => zB (mb j))))]) ∧ zK D c U)) (va_Qi (fun (r : Int32) (u : Unit) => r = (zI ((q + 1 : Nat) : Int)) ∧ True) (fun (u : Unit) t9 => va_P D vwCl [(x, .inr (4, [.ref d, .ref xm, .ref rd, .int (zI ((mk : Nat) : Int))])), (d, .inr (0, [.ref dn, .ref df, .ref di, .ref dl, .ref dm, .int (zI ((nc : Nat) : Int)), .int (zI ((q + 1 : Nat) : Int))])), (di, .inr (3, [.ref diw])), (diw, .inl (c 2, 4 * 40, .inr (.inl (zor iw q iw (q + 1))))), (dl, .inr (3, [.ref dlw])), (dlw, .inl (c 2, 4 * 40, .inr (.inl (zor lw q lw (q + 1))))), (dm, .inl (c 1, 40, .inl (fun j => zB ((va_up mb q (mb q || mb (q + 1))) j))))] t9.heap) (zA [(x, .inr (4, [.ref d, .ref xm, .ref rd, .int (zI ((mk : Nat) : Int))])), (d, .inr (0, [.ref dn, .ref df, .ref di, .ref dl, .ref dm, .int (zI ((nc : Nat) : Int)), .int (zI ((q + 2 : Nat) : Int))])), (di, .inr (3, [.ref diw])), (diw, .inl (c 2, 4 * 40, .inr (.inl iw))), (dl, .inr (3, [.ref dlw])), (dlw, .inl (c 2, 4 * 40, .inr (.inl lw))), (dm, .inl (c 1, 40, .inl (fun j => zB (mb j))))])) 0 0 (zA [(x, .inr (4, [.ref d, .ref xm, .ref rd, .int (zI ((mk : Nat) : Int))])), (d, .inr (0, [.ref dn, .ref df, .ref di, .ref dl, .ref dm, .int (zI ((nc : Nat) : Int)), .int (zI ((q + 2 : Nat) : Int))])), (di, .inr (3, [.ref diw])), (diw, .inl (c 2, 4 * 40, .inr (.inl iw))), (dl, .inr (3, [.ref dlw])), (dlw, .inl (c 2, 4 * 40, .inr (.inl lw))), (dm, .inl (c 1, 40, .inl (fun j => zB (mb j))))]) := by
  refine Met.ofW (cc := b_To_choice) (maxL := 1) (ret := (some .int)) (by decide) rfl ?_
  intro p e s m args below meth c0 s₁ B hml hv
  obtain ⟨rfl, ⟨hP, hD0⟩, hKN⟩ := hv
  have hK := hKN.1
  have hN := hKN.2
  have hx := B.exec
  have hb := B.bytes
  have hr := B.returns
  have hts := atoms_spec (ws := w_To_choice) B.pre
  have hw : ∀ {w : Cond}, w ∈ ALLW → w.before _ s = true := fun h => hts _ (List.mem_cons_of_mem _ h)
  have hown : s.vm.findClass R_To = some m.cls := findClass_of_methodNamed B.named
  have hlocks := B.notSynchronized
  have hD : va_D (zA [(x, .inr (4, [.ref d, .ref xm, .ref rd, .int (zI ((mk : Nat) : Int))])), (d, .inr (0, [.ref dn, .ref df, .ref di, .ref dl, .ref dm, .int (zI ((nc : Nat) : Int)), .int (zI ((q + 2 : Nat) : Int))])), (di, .inr (3, [.ref diw])), (diw, .inl (c 2, 4 * 40, .inr (.inl iw))), (dl, .inr (3, [.ref dlw])), (dlw, .inl (c 2, 4 * 40, .inr (.inl lw))), (dm, .inl (c 1, 40, .inl (fun j => zB (mb j))))]) [(x, .inr (4, [.ref d, .ref xm, .ref rd, .int (zI ((mk : Nat) : Int))])), (d, .inr (0, [.ref dn, .ref df, .ref di, .ref dl, .ref dm, .int (zI ((nc : Nat) : Int)), .int (zI ((q + 2 : Nat) : Int))])), (di, .inr (3, [.ref diw])), (diw, .inl (c 2, 4 * 40, .inr (.inl iw))), (dl, .inr (3, [.ref dlw])), (dlw, .inl (c 2, 4 * 40, .inr (.inl lw))), (dm, .inl (c 1, 40, .inl (fun j => zB (mb j))))] := ⟨hD0.1, fun k q h => List.mem_map.mpr ⟨q, List.mem_of_getElem? h, rfl⟩⟩
  generalize hAe : zA [(x, .inr (4, [.ref d, .ref xm, .ref rd, .int (zI ((mk : Nat) : Int))])), (d, .inr (0, [.ref dn, .ref df, .ref di, .ref dl, .ref dm, .int (zI ((nc : Nat) : Int)), .int (zI ((q + 2 : Nat) : Int))])), (di, .inr (3, [.ref diw])), (diw, .inl (c 2, 4 * 40, .inr (.inl iw))), (dl, .inr (3, [.ref dlw])), (dlw, .inl (c 2, 4 * 40, .inr (.inl lw))), (dm, .inl (c 1, 40, .inl (fun j => zB (mb j))))] = A at hD ⊢
  have hS : va_S A s.heap s.heap [] := va_S.rf
  have hP : va_P D vwCl [(x, .inr (4, [.ref d, .ref xm, .ref rd, .int (zI ((mk : Nat) : Int))])), (d, .inr (0, [.ref dn, .ref df, .ref di, .ref dl, .ref dm, .int (zI ((nc : Nat) : Int)), .int (zI ((q + 2 : Nat) : Int))])), (di, .inr (3, [.ref diw])), (diw, .inl (c 2, 4 * 40, .inr (.inl iw))), (dl, .inr (3, [.ref dlw])), (dlw, .inl (c 2, 4 * 40, .inr (.inl lw))), (dm, .inl (c 1, 40, .inl (fun j => zB (mb j))))] s.heap := hP
  have hl := lv_entry ([.ref x]) (n := 1) (Nat.le_of_ble_eq_true rfl)
  rw [lg_entry_eq]
  generalize (lg_sl ([.ref x]) ++ List.replicate (1 - (lg_sl ([.ref x])).length) Slot.unset).toArray = ls at hl ⊢
  have hl : lv_has ls 1 [(0, .ref x)] := hl
  generalize hQ : MQ below _ _ _ _ _ _ = Q
  refine lv_aload_n hx hb d_To_choice_0 rfl (lv_at hl 0 rfl) ?_
  refine va_get (D := D) (ci := 4) (v := .ref d) (C := R_To) (T := T_To) (N := 4) hx hb hts (fun w h => List.mem_cons_of_mem _ (inA_To w h)) hown hK hP 0 rfl rfl 0 (by decide) (hw k_To_f12) (fun _ h9 => h9) rfl d_To_choice_1 ?_
  have hPc : va_P D vwCl [(d, .inr (0, [.ref dn, .ref df, .ref di, .ref dl, .ref dm, .int (zI ((nc : Nat) : Int)), .int (zI ((q + 2 : Nat) : Int))])), (di, .inr (3, [.ref diw])), (diw, .inl (c 2, 4 * 40, .inr (.inl iw))), (dl, .inr (3, [.ref dlw])), (dlw, .inl (c 2, 4 * 40, .inr (.inl lw))), (dm, .inl (c 1, 40, .inl (fun j => zB (mb j))))] s.heap := hP.sub (ws' := [(d, .inr (0, [.ref dn, .ref df, .ref di, .ref dl, .ref dm, .int (zI ((nc : Nat) : Int)), .int (zI ((q + 2 : Nat) : Int))])), (di, .inr (3, [.ref diw])), (diw, .inl (c 2, 4 * 40, .inr (.inl iw))), (dl, .inr (3, [.ref dlw])), (dlw, .inl (c 2, 4 * 40, .inr (.inl lw))), (dm, .inl (c 1, 40, .inl (fun j => zB (mb j))))]) [1, 2, 3, 4, 5, 6] rfl
  have hDc : va_D A [(d, .inr (0, [.ref dn, .ref df, .ref di, .ref dl, .ref dm, .int (zI ((nc : Nat) : Int)), .int (zI ((q + 2 : Nat) : Int))])), (di, .inr (3, [.ref diw])), (diw, .inl (c 2, 4 * 40, .inr (.inl iw))), (dl, .inr (3, [.ref dlw])), (dlw, .inl (c 2, 4 * 40, .inr (.inl lw))), (dm, .inl (c 1, 40, .inl (fun j => zB (mb j))))] := hD.sub (ws' := [(d, .inr (0, [.ref dn, .ref df, .ref di, .ref dl, .ref dm, .int (zI ((nc : Nat) : Int)), .int (zI ((q + 2 : Nat) : Int))])), (di, .inr (3, [.ref diw])), (diw, .inl (c 2, 4 * 40, .inr (.inl iw))), (dl, .inr (3, [.ref dlw])), (dlw, .inl (c 2, 4 * 40, .inr (.inl lw))), (dm, .inl (c 1, 40, .inl (fun j => zB (mb j))))]) [1, 2, 3, 4, 5, 6] (by decide) rfl
  have hDt : va_D (fun _ => True) [(d, .inr (0, [.ref dn, .ref df, .ref di, .ref dl, .ref dm, .int (zI ((nc : Nat) : Int)), .int (zI ((q + 2 : Nat) : Int))])), (di, .inr (3, [.ref diw])), (diw, .inl (c 2, 4 * 40, .inr (.inl iw))), (dl, .inr (3, [.ref dlw])), (dlw, .inl (c 2, 4 * 40, .inr (.inl lw))), (dm, .inl (c 1, 40, .inl (fun j => zB (mb j))))] := hDc.weaken (fun _ _ _ _ => trivial)
  refine z_calli (S := Unit) (w1 := fun u => [(d, .inr (0, [.ref dn, .ref df, .ref di, .ref dl, .ref dm, .int (zI ((nc : Nat) : Int)), .int (zI ((q + 1 : Nat) : Int))])), (di, .inr (3, [.ref diw])), (diw, .inl (c 2, 4 * 40, .inr (.inl (zor iw q iw (q + 1))))), (dl, .inr (3, [.ref dlw])), (dlw, .inl (c 2, 4 * 40, .inr (.inl (zor lw q lw (q + 1))))), (dm, .inl (c 1, 40, .inl (fun j => zB ((va_up mb q (mb q || mb (q + 1))) j))))]) (post := fun r u => r = (zB true) ∧ True) (wc := [(d, .inr (0, [.ref dn, .ref df, .ref di, .ref dl, .ref dm, .int (zI ((nc : Nat) : Int)), .int (zI ((q + 2 : Nat) : Int))])), (di, .inr (3, [.ref diw])), (diw, .inl (c 2, 4 * 40, .inr (.inl iw))), (dl, .inr (3, [.ref dlw])), (dlw, .inl (c 2, 4 * 40, .inr (.inl lw))), (dm, .inl (c 1, 40, .inl (fun j => zB (mb j))))]) [1, 2, 3, 4, 5, 6] rfl (fun _ => rfl) hP hD hS (va_runV (rm := rm_joinToChoice) (As := []) (rest := []) ⟨hx, hb, hml, hown, hts⟩ (c_joinToChoice l D c d dn df dfw di diw dl dlw dm nm fw iw lw mb nc q (by omega)) (cwV 0 hts (gWV k_To_m47 k_i_Dr_joinToChoice k_v_Dr_joinToChoice k_n_Dr k_c_Dr_joinToChoice) rfl rfl rfl (by decide +kernel) ⟨Nat.le_of_ble_eq_true rfl, Nat.le_of_ble_eq_true rfl⟩) ⟨zblindW, va_recv hK hPc (ci := 0) (q0 := 0) rfl rfl, fun U hU hW => ⟨rfl, ⟨by rw [hU]; exact hPc, hDt⟩, hKN.moved hW⟩⟩ rfl rfl hl.1 rfl (lv_room (Nat.le_of_ble_eq_true rfl)) d_To_choice_4 ⟨Nat.zero_le _, Nat.zero_le _⟩) (fun r u H locs hp_1 hP hD hS => ?_)
  obtain ⟨hr_1, hp_1⟩ := hp_1
  subst hr_1
  have hP : va_P D vwCl [(x, .inr (4, [.ref d, .ref xm, .ref rd, .int (zI ((mk : Nat) : Int))])), (d, .inr (0, [.ref dn, .ref df, .ref di, .ref dl, .ref dm, .int (zI ((nc : Nat) : Int)), .int (zI ((q + 1 : Nat) : Int))])), (di, .inr (3, [.ref diw])), (diw, .inl (c 2, 4 * 40, .inr (.inl (zor iw q iw (q + 1))))), (dl, .inr (3, [.ref dlw])), (dlw, .inl (c 2, 4 * 40, .inr (.inl (zor lw q lw (q + 1))))), (dm, .inl (c 1, 40, .inl (fun j => zB ((va_up mb q (mb q || mb (q + 1))) j))))] H := hP
  have hD : va_D A [(x, .inr (4, [.ref d, .ref xm, .ref rd, .int (zI ((mk : Nat) : Int))])), (d, .inr (0, [.ref dn, .ref df, .ref di, .ref dl, .ref dm, .int (zI ((nc : Nat) : Int)), .int (zI ((q + 1 : Nat) : Int))])), (di, .inr (3, [.ref diw])), (diw, .inl (c 2, 4 * 40, .inr (.inl (zor iw q iw (q + 1))))), (dl, .inr (3, [.ref dlw])), (dlw, .inl (c 2, 4 * 40, .inr (.inl (zor lw q lw (q + 1))))), (dm, .inl (c 1, 40, .inl (fun j => zB ((va_up mb q (mb q || mb (q + 1))) j))))] := hD
  refine z_ifeq_B (tgt := 20) hx hb d_To_choice_7 (by decide) (fun hc_7 => (absurd hc_7 (by decide))) (fun hc_7 => ?_)
  refine lv_aload_n hx hb d_To_choice_10 rfl (lv_at hl 0 rfl) ?_
  refine va_get (D := D) (ci := 4) (v := .ref d) (C := R_To) (T := T_To) (N := 4) hx hb hts (fun w h => List.mem_cons_of_mem _ (inA_To w h)) hown hK hP 0 rfl rfl 0 (by decide) (hw k_To_f12) (fun _ h9 => h9) rfl d_To_choice_11 ?_
  refine va_getN (D := D) (ci := 0) (v := .int (zI ((q + 1 : Nat) : Int))) (C := R_Dr) (T := T_Dr) (N := 7) hx hb hts (fun w h => List.mem_cons_of_mem _ (inA_Dr w h)) hown hK hP 1 rfl rfl 6 (by decide) (va_Nw.use rfl hN.2.1) (fun _ h9 => h9) rfl d_To_choice_14 ?_
  refine lv_goto (tgt := 21) hx hb d_To_choice_17 (by decide) ?_
  subst hQ
  exact W.iret (v := (zI ((q + 1 : Nat) : Int))) hx hb hr (fun t9 ht hW => ⟨⟨_, (), rfl, ⟨rfl, trivial⟩, by show va_P _ _ _ t9.heap; rw [ht]; exact hP⟩, hS.F ht⟩) hS.2.2 d_To_choice_21

def rm_often_no : Room := { frames := 2, cells := 0, slots := 0, locals := 43 }
set_option maxHeartbeats 4000000 in
set_option maxRecDepth 100000 in
/-- often, refused -/
theorem c_often_no (l : Launch) (D : va_G) (c : Nat → ClassId) (x : Nat) (xm : Nat) (rd : Nat) (d : Nat) (dn : Nat) (df : Nat) (dfw : Nat) (di : Nat) (diw : Nat) (dl : Nat) (dlw : Nat) (dm : Nat) (mg : Nat → Option Nat) (mk : Nat) (nm : Nat → Nat) (fw : Nat → Int64) (iw : Nat → Int64) (lw : Nat → Int64) (mb : Nat → Bool) (nc : Nat) (pp : Nat) (y : Int) (hp : pp ≤ 40) (hy : -2147483648 ≤ y ∧ y < 2147483648) (hno : pp = 0 ∨ y < 1 ∨ 3 < y) : Met l y_To_often w_To_often rm_often_no (va_Pc [.ref x, .int (zI y)] (fun U => va_P D vwCl [(x, .inr (4, [.ref d, .ref xm, .ref rd, .int (zI ((mk : Nat) : Int))])), (d, .inr (0, [.ref dn, .ref df, .ref di, .ref dl, .ref dm, .int (zI ((nc : Nat) : Int)), .int (zI ((pp : Nat) : Int))])), (dm, .inl (c 1, 40, .inl (fun j => zB (mb j))))] U.heap ∧ zK D c U)) (vp_Si (fun r => r = (zB false))) 0 0 (fun _ => False) := by
  refine Met.ofW (cc := b_To_often) (maxL := 2) (ret := (some .boolean)) (by decide) rfl ?_
  intro p e s m args below meth c0 s₁ B hml hv
  obtain ⟨rfl, hP, hKN⟩ := hv
  have hK := hKN.1
  have hN := hKN.2
  have hx := B.exec
  have hb := B.bytes
  have hr := B.returns
  have hts := atoms_spec (ws := w_To_often) B.pre
  have hw : ∀ {w : Cond}, w ∈ ALLW → w.before _ s = true := fun h => hts _ (List.mem_cons_of_mem _ h)
  have hown : s.vm.findClass R_To = some m.cls := findClass_of_methodNamed B.named
  have hlocks := B.notSynchronized
  have hl := lv_entry ([.ref x, .int (zI y)]) (n := 2) (Nat.le_of_ble_eq_true rfl)
  rw [lg_entry_eq]
  generalize (lg_sl ([.ref x, .int (zI y)]) ++ List.replicate (2 - (lg_sl ([.ref x, .int (zI y)])).length) Slot.unset).toArray = ls at hl ⊢
  have hl : lv_has ls 2 [(0, .ref x), (1, .int (zI y))] := hl
  generalize hQ : MQ below _ _ _ _ _ _ = Q
  refine lv_aload_n hx hb d_To_often_0 rfl (lv_at hl 0 rfl) ?_
  refine va_get (D := D) (ci := 4) (v := .ref d) (C := R_To) (T := T_To) (N := 4) hx hb hts (fun w h => List.mem_cons_of_mem _ (inA_To w h)) hown hK hP 0 rfl rfl 0 (by decide) (hw k_To_f12) (fun _ h9 => h9) rfl d_To_often_1 ?_
  refine lv_iload_n hx hb d_To_often_4 rfl (lv_at hl 1 rfl) ?_
  have hPc : va_P D vwCl [(d, .inr (0, [.ref dn, .ref df, .ref di, .ref dl, .ref dm, .int (zI ((nc : Nat) : Int)), .int (zI ((pp : Nat) : Int))])), (dm, .inl (c 1, 40, .inl (fun j => zB (mb j))))] s.heap := hP.sub (ws' := [(d, .inr (0, [.ref dn, .ref df, .ref di, .ref dl, .ref dm, .int (zI ((nc : Nat) : Int)), .int (zI ((pp : Nat) : Int))])), (dm, .inl (c 1, 40, .inl (fun j => zB (mb j))))]) [1, 2] rfl
  refine vp_callSi (va_runV (rm := rm_repeatLast_no) (As := [.int (zI y)]) (rest := []) ⟨hx, hb, hml, hown, hts⟩ (c_repeatLast_no l D c d dn df dfw di diw dl dlw dm nm fw iw lw mb nc pp y (by omega) (by omega) (by omega)) (cwV 1 hts (gWV k_To_m50 k_i_Dr_repeatLast k_v_Dr_repeatLast k_n_Dr k_c_Dr_repeatLast) rfl rfl rfl (by decide +kernel) ⟨Nat.le_of_ble_eq_true rfl, Nat.le_of_ble_eq_true rfl⟩) ⟨zblind, va_recv hK hPc (ci := 0) (q0 := 0) rfl rfl, fun U hU hW => ⟨rfl, by rw [hU]; exact hPc, hKN.moved hW⟩⟩ rfl rfl hl.1 rfl (lv_room (Nat.le_of_ble_eq_true rfl)) d_To_often_5 ⟨Nat.zero_le _, Nat.zero_le _⟩).run (fun r hr_1 => ?_)
  subst hr_1
  subst hQ
  exact W.zret (ty := .boolean) (v := (zB false)) hx hb hr (z_narB _) (fun t9 ht hW => ⟨_, rfl, rfl, ht⟩) (fun q hq => absurd hq List.not_mem_nil) d_To_often_8

def rm_often1 : Room := { frames := 2, cells := 0, slots := 0, locals := 43 }
set_option maxHeartbeats 4000000 in
set_option maxRecDepth 100000 in
/-- often(1) -/
theorem c_often1 (l : Launch) (D : va_G) (c : Nat → ClassId) (x : Nat) (xm : Nat) (rd : Nat) (d : Nat) (dn : Nat) (df : Nat) (dfw : Nat) (di : Nat) (diw : Nat) (dl : Nat) (dlw : Nat) (dm : Nat) (mg : Nat → Option Nat) (mk : Nat) (nm : Nat → Nat) (fw : Nat → Int64) (iw : Nat → Int64) (lw : Nat → Int64) (mb : Nat → Bool) (nc : Nat) (q : Nat) (hp : q + 1 ≤ 40) (hc : nc ≤ 255) : Met l y_To_often w_To_often rm_often1 (va_Pc [.ref x, .int (zI 1)] (fun U => (va_P D vwCl [(x, .inr (4, [.ref d, .ref xm, .ref rd, .int (zI ((mk : Nat) : Int))])), (d, .inr (0, [.ref dn, .ref df, .ref di, .ref dl, .ref dm, .int (zI ((nc : Nat) : Int)), .int (zI ((q + 1 : Nat) : Int))])), (df, .inr (3, [.ref dfw])), (dfw, .inl (c 2, 4 * 255, .inr (.inl fw))), (di, .inr (3, [.ref diw])), (diw, .inl (c 2, 4 * 40, .inr (.inl iw))), (dl, .inr (3, [.ref dlw])), (dlw, .inl (c 2, 4 * 40, .inr (.inl lw))), (dm, .inl (c 1, 40, .inl (fun j => zB (mb j))))] U.heap ∧ va_D (fun _ => True) [(x, .inr (4, [.ref d, .ref xm, .ref rd, .int (zI ((mk : Nat) : Int))])), (d, .inr (0, [.ref dn, .ref df, .ref di, .ref dl, .ref dm, .int (zI ((nc : Nat) : Int)), .int (zI ((q + 1 : Nat) : Int))])), (df, .inr (3, [.ref dfw])), (dfw, .inl (c 2, 4 * 255, .inr (.inl fw))), (di, .inr (3, [.ref diw])), (diw, .inl (c 2, 4 * 40, .inr (.inl iw))), (dl, .inr (3, [.ref dlw])), (dlw, .inl (c 2, 4 * 40, .inr (.inl lw))), (dm, .inl (c 1, 40, .inl (fun j => zB (mb j))))]) ∧ zK D c U)) (va_Qi (fun (r : Int32) (u : Unit) => r = (zB true) ∧ True) (fun (u : Unit) t9 => va_P D vwCl [(x, .inr (4, [.ref d, .ref xm, .ref rd, .int (zI ((mk : Nat) : Int))])), (d, .inr (0, [.ref dn, .ref df, .ref di, .ref dl, .ref dm, .int (zI ((nc : Nat) : Int)), .int (zI ((q + 1 : Nat) : Int))])), (df, .inr (3, [.ref dfw])), (dfw, .inl (c 2, 4 * 255, .inr (.inl fw))), (di, .inr (3, [.ref diw])), (diw, .inl (c 2, 4 * 40, .inr (.inl iw))), (dl, .inr (3, [.ref dlw])), (dlw, .inl (c 2, 4 * 40, .inr (.inl lw))), (dm, .inl (c 1, 40, .inl (fun j => zB ((va_up mb q true) j))))] t9.heap) (zA [(x, .inr (4, [.ref d, .ref xm, .ref rd, .int (zI ((mk : Nat) : Int))])), (d, .inr (0, [.ref dn, .ref df, .ref di, .ref dl, .ref dm, .int (zI ((nc : Nat) : Int)), .int (zI ((q + 1 : Nat) : Int))])), (df, .inr (3, [.ref dfw])), (dfw, .inl (c 2, 4 * 255, .inr (.inl fw))), (di, .inr (3, [.ref diw])), (diw, .inl (c 2, 4 * 40, .inr (.inl iw))), (dl, .inr (3, [.ref dlw])), (dlw, .inl (c 2, 4 * 40, .inr (.inl lw))), (dm, .inl (c 1, 40, .inl (fun j => zB (mb j))))])) 0 0 (zA [(x, .inr (4, [.ref d, .ref xm, .ref rd, .int (zI ((mk : Nat) : Int))])), (d, .inr (0, [.ref dn, .ref df, .ref di, .ref dl, .ref dm, .int (zI ((nc : Nat) : Int)), .int (zI ((q + 1 : Nat) : Int))])), (df, .inr (3, [.ref dfw])), (dfw, .inl (c 2, 4 * 255, .inr (.inl fw))), (di, .inr (3, [.ref diw])), (diw, .inl (c 2, 4 * 40, .inr (.inl iw))), (dl, .inr (3, [.ref dlw])), (dlw, .inl (c 2, 4 * 40, .inr (.inl lw))), (dm, .inl (c 1, 40, .inl (fun j => zB (mb j))))]) := by
  refine Met.ofW (cc := b_To_often) (maxL := 2) (ret := (some .boolean)) (by decide) rfl ?_
  intro p e s m args below meth c0 s₁ B hml hv
  obtain ⟨rfl, ⟨hP, hD0⟩, hKN⟩ := hv
  have hK := hKN.1
  have hN := hKN.2
  have hx := B.exec
  have hb := B.bytes
  have hr := B.returns
  have hts := atoms_spec (ws := w_To_often) B.pre
  have hw : ∀ {w : Cond}, w ∈ ALLW → w.before _ s = true := fun h => hts _ (List.mem_cons_of_mem _ h)
  have hown : s.vm.findClass R_To = some m.cls := findClass_of_methodNamed B.named
  have hlocks := B.notSynchronized
  have hD : va_D (zA [(x, .inr (4, [.ref d, .ref xm, .ref rd, .int (zI ((mk : Nat) : Int))])), (d, .inr (0, [.ref dn, .ref df, .ref di, .ref dl, .ref dm, .int (zI ((nc : Nat) : Int)), .int (zI ((q + 1 : Nat) : Int))])), (df, .inr (3, [.ref dfw])), (dfw, .inl (c 2, 4 * 255, .inr (.inl fw))), (di, .inr (3, [.ref diw])), (diw, .inl (c 2, 4 * 40, .inr (.inl iw))), (dl, .inr (3, [.ref dlw])), (dlw, .inl (c 2, 4 * 40, .inr (.inl lw))), (dm, .inl (c 1, 40, .inl (fun j => zB (mb j))))]) [(x, .inr (4, [.ref d, .ref xm, .ref rd, .int (zI ((mk : Nat) : Int))])), (d, .inr (0, [.ref dn, .ref df, .ref di, .ref dl, .ref dm, .int (zI ((nc : Nat) : Int)), .int (zI ((q + 1 : Nat) : Int))])), (df, .inr (3, [.ref dfw])), (dfw, .inl (c 2, 4 * 255, .inr (.inl fw))), (di, .inr (3, [.ref diw])), (diw, .inl (c 2, 4 * 40, .inr (.inl iw))), (dl, .inr (3, [.ref dlw])), (dlw, .inl (c 2, 4 * 40, .inr (.inl lw))), (dm, .inl (c 1, 40, .inl (fun j => zB (mb j))))] := ⟨hD0.1, fun k q h => List.mem_map.mpr ⟨q, List.mem_of_getElem? h, rfl⟩⟩
  generalize hAe : zA [(x, .inr (4, [.ref d, .ref xm, .ref rd, .int (zI ((mk : Nat) : Int))])), (d, .inr (0, [.ref dn, .ref df, .ref di, .ref dl, .ref dm, .int (zI ((nc : Nat) : Int)), .int (zI ((q + 1 : Nat) : Int))])), (df, .inr (3, [.ref dfw])), (dfw, .inl (c 2, 4 * 255, .inr (.inl fw))), (di, .inr (3, [.ref diw])), (diw, .inl (c 2, 4 * 40, .inr (.inl iw))), (dl, .inr (3, [.ref dlw])), (dlw, .inl (c 2, 4 * 40, .inr (.inl lw))), (dm, .inl (c 1, 40, .inl (fun j => zB (mb j))))] = A at hD ⊢
  have hS : va_S A s.heap s.heap [] := va_S.rf
  have hP : va_P D vwCl [(x, .inr (4, [.ref d, .ref xm, .ref rd, .int (zI ((mk : Nat) : Int))])), (d, .inr (0, [.ref dn, .ref df, .ref di, .ref dl, .ref dm, .int (zI ((nc : Nat) : Int)), .int (zI ((q + 1 : Nat) : Int))])), (df, .inr (3, [.ref dfw])), (dfw, .inl (c 2, 4 * 255, .inr (.inl fw))), (di, .inr (3, [.ref diw])), (diw, .inl (c 2, 4 * 40, .inr (.inl iw))), (dl, .inr (3, [.ref dlw])), (dlw, .inl (c 2, 4 * 40, .inr (.inl lw))), (dm, .inl (c 1, 40, .inl (fun j => zB (mb j))))] s.heap := hP
  have hl := lv_entry ([.ref x, .int (zI 1)]) (n := 2) (Nat.le_of_ble_eq_true rfl)
  rw [lg_entry_eq]
  generalize (lg_sl ([.ref x, .int (zI 1)]) ++ List.replicate (2 - (lg_sl ([.ref x, .int (zI 1)])).length) Slot.unset).toArray = ls at hl ⊢
  have hl : lv_has ls 2 [(0, .ref x), (1, .int (zI 1))] := hl
  generalize hQ : MQ below _ _ _ _ _ _ = Q
  refine lv_aload_n hx hb d_To_often_0 rfl (lv_at hl 0 rfl) ?_
  refine va_get (D := D) (ci := 4) (v := .ref d) (C := R_To) (T := T_To) (N := 4) hx hb hts (fun w h => List.mem_cons_of_mem _ (inA_To w h)) hown hK hP 0 rfl rfl 0 (by decide) (hw k_To_f12) (fun _ h9 => h9) rfl d_To_often_1 ?_
  refine lv_iload_n hx hb d_To_often_4 rfl (lv_at hl 1 rfl) ?_
  have hPc : va_P D vwCl [(d, .inr (0, [.ref dn, .ref df, .ref di, .ref dl, .ref dm, .int (zI ((nc : Nat) : Int)), .int (zI ((q + 1 : Nat) : Int))])), (df, .inr (3, [.ref dfw])), (dfw, .inl (c 2, 4 * 255, .inr (.inl fw))), (di, .inr (3, [.ref diw])), (diw, .inl (c 2, 4 * 40, .inr (.inl iw))), (dl, .inr (3, [.ref dlw])), (dlw, .inl (c 2, 4 * 40, .inr (.inl lw))), (dm, .inl (c 1, 40, .inl (fun j => zB (mb j))))] s.heap := hP.sub (ws' := [(d, .inr (0, [.ref dn, .ref df, .ref di, .ref dl, .ref dm, .int (zI ((nc : Nat) : Int)), .int (zI ((q + 1 : Nat) : Int))])), (df, .inr (3, [.ref dfw])), (dfw, .inl (c 2, 4 * 255, .inr (.inl fw))), (di, .inr (3, [.ref diw])), (diw, .inl (c 2, 4 * 40, .inr (.inl iw))), (dl, .inr (3, [.ref dlw])), (dlw, .inl (c 2, 4 * 40, .inr (.inl lw))), (dm, .inl (c 1, 40, .inl (fun j => zB (mb j))))]) [1, 2, 3, 4, 5, 6, 7, 8] rfl
  have hDc : va_D A [(d, .inr (0, [.ref dn, .ref df, .ref di, .ref dl, .ref dm, .int (zI ((nc : Nat) : Int)), .int (zI ((q + 1 : Nat) : Int))])), (df, .inr (3, [.ref dfw])), (dfw, .inl (c 2, 4 * 255, .inr (.inl fw))), (di, .inr (3, [.ref diw])), (diw, .inl (c 2, 4 * 40, .inr (.inl iw))), (dl, .inr (3, [.ref dlw])), (dlw, .inl (c 2, 4 * 40, .inr (.inl lw))), (dm, .inl (c 1, 40, .inl (fun j => zB (mb j))))] := hD.sub (ws' := [(d, .inr (0, [.ref dn, .ref df, .ref di, .ref dl, .ref dm, .int (zI ((nc : Nat) : Int)), .int (zI ((q + 1 : Nat) : Int))])), (df, .inr (3, [.ref dfw])), (dfw, .inl (c 2, 4 * 255, .inr (.inl fw))), (di, .inr (3, [.ref diw])), (diw, .inl (c 2, 4 * 40, .inr (.inl iw))), (dl, .inr (3, [.ref dlw])), (dlw, .inl (c 2, 4 * 40, .inr (.inl lw))), (dm, .inl (c 1, 40, .inl (fun j => zB (mb j))))]) [1, 2, 3, 4, 5, 6, 7, 8] (by decide) rfl
  have hDt : va_D (fun _ => True) [(d, .inr (0, [.ref dn, .ref df, .ref di, .ref dl, .ref dm, .int (zI ((nc : Nat) : Int)), .int (zI ((q + 1 : Nat) : Int))])), (df, .inr (3, [.ref dfw])), (dfw, .inl (c 2, 4 * 255, .inr (.inl fw))), (di, .inr (3, [.ref diw])), (diw, .inl (c 2, 4 * 40, .inr (.inl iw))), (dl, .inr (3, [.ref dlw])), (dlw, .inl (c 2, 4 * 40, .inr (.inl lw))), (dm, .inl (c 1, 40, .inl (fun j => zB (mb j))))] := hDc.weaken (fun _ _ _ _ => trivial)
  refine z_calli (S := Unit) (w1 := fun u => [(d, .inr (0, [.ref dn, .ref df, .ref di, .ref dl, .ref dm, .int (zI ((nc : Nat) : Int)), .int (zI ((q + 1 : Nat) : Int))])), (df, .inr (3, [.ref dfw])), (dfw, .inl (c 2, 4 * 255, .inr (.inl fw))), (di, .inr (3, [.ref diw])), (diw, .inl (c 2, 4 * 40, .inr (.inl iw))), (dl, .inr (3, [.ref dlw])), (dlw, .inl (c 2, 4 * 40, .inr (.inl lw))), (dm, .inl (c 1, 40, .inl (fun j => zB ((va_up mb q true) j))))]) (post := fun r u => r = (zB true) ∧ True) (wc := [(d, .inr (0, [.ref dn, .ref df, .ref di, .ref dl, .ref dm, .int (zI ((nc : Nat) : Int)), .int (zI ((q + 1 : Nat) : Int))])), (df, .inr (3, [.ref dfw])), (dfw, .inl (c 2, 4 * 255, .inr (.inl fw))), (di, .inr (3, [.ref diw])), (diw, .inl (c 2, 4 * 40, .inr (.inl iw))), (dl, .inr (3, [.ref dlw])), (dlw, .inl (c 2, 4 * 40, .inr (.inl lw))), (dm, .inl (c 1, 40, .inl (fun j => zB (mb j))))]) [1, 2, 3, 4, 5, 6, 7, 8] rfl (fun _ => rfl) hP hD hS (va_runV (rm := rm_repeatLast1) (As := [.int (zI 1)]) (rest := []) ⟨hx, hb, hml, hown, hts⟩ (c_repeatLast1 l D c d dn df dfw di diw dl dlw dm nm fw iw lw mb nc q (by omega) (by omega)) (cwV 1 hts (gWV k_To_m50 k_i_Dr_repeatLast k_v_Dr_repeatLast k_n_Dr k_c_Dr_repeatLast) rfl rfl rfl (by decide +kernel) ⟨Nat.le_of_ble_eq_true rfl, Nat.le_of_ble_eq_true rfl⟩) ⟨zblindW, va_recv hK hPc (ci := 0) (q0 := 0) rfl rfl, fun U hU hW => ⟨rfl, ⟨by rw [hU]; exact hPc, hDt⟩, hKN.moved hW⟩⟩ rfl rfl hl.1 rfl (lv_room (Nat.le_of_ble_eq_true rfl)) d_To_often_5 ⟨Nat.zero_le _, Nat.zero_le _⟩) (fun r u H locs hp_1 hP hD hS => ?_)
  obtain ⟨hr_1, hp_1⟩ := hp_1
  subst hr_1
  have hP : va_P D vwCl [(x, .inr (4, [.ref d, .ref xm, .ref rd, .int (zI ((mk : Nat) : Int))])), (d, .inr (0, [.ref dn, .ref df, .ref di, .ref dl, .ref dm, .int (zI ((nc : Nat) : Int)), .int (zI ((q + 1 : Nat) : Int))])), (df, .inr (3, [.ref dfw])), (dfw, .inl (c 2, 4 * 255, .inr (.inl fw))), (di, .inr (3, [.ref diw])), (diw, .inl (c 2, 4 * 40, .inr (.inl iw))), (dl, .inr (3, [.ref dlw])), (dlw, .inl (c 2, 4 * 40, .inr (.inl lw))), (dm, .inl (c 1, 40, .inl (fun j => zB ((va_up mb q true) j))))] H := hP
  have hD : va_D A [(x, .inr (4, [.ref d, .ref xm, .ref rd, .int (zI ((mk : Nat) : Int))])), (d, .inr (0, [.ref dn, .ref df, .ref di, .ref dl, .ref dm, .int (zI ((nc : Nat) : Int)), .int (zI ((q + 1 : Nat) : Int))])), (df, .inr (3, [.ref dfw])), (dfw, .inl (c 2, 4 * 255, .inr (.inl fw))), (di, .inr (3, [.ref diw])), (diw, .inl (c 2, 4 * 40, .inr (.inl iw))), (dl, .inr (3, [.ref dlw])), (dlw, .inl (c 2, 4 * 40, .inr (.inl lw))), (dm, .inl (c 1, 40, .inl (fun j => zB ((va_up mb q true) j))))] := hD
  subst hQ
  exact W.zret (ty := .boolean) (v := (zB true)) hx hb hr (z_narB _) (fun t9 ht hW => ⟨⟨_, (), rfl, ⟨rfl, trivial⟩, by show va_P _ _ _ t9.heap; rw [ht]; exact hP⟩, hS.F ht⟩) hS.2.2 d_To_often_8

def rm_often2 : Room := { frames := 5, cells := 0, slots := 0, locals := 110 }
set_option maxHeartbeats 4000000 in
set_option maxRecDepth 100000 in
/-- often(2) -/
theorem c_often2 (l : Launch) (D : va_G) (c : Nat → ClassId) (x : Nat) (xm : Nat) (rd : Nat) (d : Nat) (dn : Nat) (df : Nat) (dfw : Nat) (di : Nat) (diw : Nat) (dl : Nat) (dlw : Nat) (dm : Nat) (mg : Nat → Option Nat) (mk : Nat) (nm : Nat → Nat) (fw : Nat → Int64) (iw : Nat → Int64) (lw : Nat → Int64) (mb : Nat → Bool) (nc : Nat) (q : Nat) (hp : q + 1 ≤ 40) (hc : nc ≤ 255) : Met l y_To_often w_To_often rm_often2 (va_Pc [.ref x, .int (zI 2)] (fun U => (va_P D vwCl [(x, .inr (4, [.ref d, .ref xm, .ref rd, .int (zI ((mk : Nat) : Int))])), (d, .inr (0, [.ref dn, .ref df, .ref di, .ref dl, .ref dm, .int (zI ((nc : Nat) : Int)), .int (zI ((q + 1 : Nat) : Int))])), (df, .inr (3, [.ref dfw])), (dfw, .inl (c 2, 4 * 255, .inr (.inl fw))), (di, .inr (3, [.ref diw])), (diw, .inl (c 2, 4 * 40, .inr (.inl iw))), (dl, .inr (3, [.ref dlw])), (dlw, .inl (c 2, 4 * 40, .inr (.inl lw))), (dm, .inl (c 1, 40, .inl (fun j => zB (mb j))))] U.heap ∧ va_D (fun _ => True) [(x, .inr (4, [.ref d, .ref xm, .ref rd, .int (zI ((mk : Nat) : Int))])), (d, .inr (0, [.ref dn, .ref df, .ref di, .ref dl, .ref dm, .int (zI ((nc : Nat) : Int)), .int (zI ((q + 1 : Nat) : Int))])), (df, .inr (3, [.ref dfw])), (dfw, .inl (c 2, 4 * 255, .inr (.inl fw))), (di, .inr (3, [.ref diw])), (diw, .inl (c 2, 4 * 40, .inr (.inl iw))), (dl, .inr (3, [.ref dlw])), (dlw, .inl (c 2, 4 * 40, .inr (.inl lw))), (dm, .inl (c 1, 40, .inl (fun j => zB (mb j))))]) ∧ zK D c U)) (va_Qi (fun (r : Int32) (u : Unit) => r = (zB true) ∧ True) (fun (u : Unit) t9 => va_P D vwCl [(x, .inr (4, [.ref d, .ref xm, .ref rd, .int (zI ((mk : Nat) : Int))])), (d, .inr (0, [.ref dn, .ref df, .ref di, .ref dl, .ref dm, .int (zI ((nc : Nat) : Int)), .int (zI ((q + 1 : Nat) : Int))])), (df, .inr (3, [.ref dfw])), (dfw, .inl (c 2, 4 * 255, .inr (.inl (lfw fw iw lw q q nc)))), (di, .inr (3, [.ref diw])), (diw, .inl (c 2, 4 * 40, .inr (.inl iw))), (dl, .inr (3, [.ref dlw])), (dlw, .inl (c 2, 4 * 40, .inr (.inl lw))), (dm, .inl (c 1, 40, .inl (fun j => zB ((va_up mb q true) j))))] t9.heap) (zA [(x, .inr (4, [.ref d, .ref xm, .ref rd, .int (zI ((mk : Nat) : Int))])), (d, .inr (0, [.ref dn, .ref df, .ref di, .ref dl, .ref dm, .int (zI ((nc : Nat) : Int)), .int (zI ((q + 1 : Nat) : Int))])), (df, .inr (3, [.ref dfw])), (dfw, .inl (c 2, 4 * 255, .inr (.inl fw))), (di, .inr (3, [.ref diw])), (diw, .inl (c 2, 4 * 40, .inr (.inl iw))), (dl, .inr (3, [.ref dlw])), (dlw, .inl (c 2, 4 * 40, .inr (.inl lw))), (dm, .inl (c 1, 40, .inl (fun j => zB (mb j))))])) 0 0 (zA [(x, .inr (4, [.ref d, .ref xm, .ref rd, .int (zI ((mk : Nat) : Int))])), (d, .inr (0, [.ref dn, .ref df, .ref di, .ref dl, .ref dm, .int (zI ((nc : Nat) : Int)), .int (zI ((q + 1 : Nat) : Int))])), (df, .inr (3, [.ref dfw])), (dfw, .inl (c 2, 4 * 255, .inr (.inl fw))), (di, .inr (3, [.ref diw])), (diw, .inl (c 2, 4 * 40, .inr (.inl iw))), (dl, .inr (3, [.ref dlw])), (dlw, .inl (c 2, 4 * 40, .inr (.inl lw))), (dm, .inl (c 1, 40, .inl (fun j => zB (mb j))))]) := by
  refine Met.ofW (cc := b_To_often) (maxL := 2) (ret := (some .boolean)) (by decide) rfl ?_
  intro p e s m args below meth c0 s₁ B hml hv
  obtain ⟨rfl, ⟨hP, hD0⟩, hKN⟩ := hv
  have hK := hKN.1
  have hN := hKN.2
  have hx := B.exec
  have hb := B.bytes
  have hr := B.returns
  have hts := atoms_spec (ws := w_To_often) B.pre
  have hw : ∀ {w : Cond}, w ∈ ALLW → w.before _ s = true := fun h => hts _ (List.mem_cons_of_mem _ h)
  have hown : s.vm.findClass R_To = some m.cls := findClass_of_methodNamed B.named
  have hlocks := B.notSynchronized
  have hD : va_D (zA [(x, .inr (4, [.ref d, .ref xm, .ref rd, .int (zI ((mk : Nat) : Int))])), (d, .inr (0, [.ref dn, .ref df, .ref di, .ref dl, .ref dm, .int (zI ((nc : Nat) : Int)), .int (zI ((q + 1 : Nat) : Int))])), (df, .inr (3, [.ref dfw])), (dfw, .inl (c 2, 4 * 255, .inr (.inl fw))), (di, .inr (3, [.ref diw])), (diw, .inl (c 2, 4 * 40, .inr (.inl iw))), (dl, .inr (3, [.ref dlw])), (dlw, .inl (c 2, 4 * 40, .inr (.inl lw))), (dm, .inl (c 1, 40, .inl (fun j => zB (mb j))))]) [(x, .inr (4, [.ref d, .ref xm, .ref rd, .int (zI ((mk : Nat) : Int))])), (d, .inr (0, [.ref dn, .ref df, .ref di, .ref dl, .ref dm, .int (zI ((nc : Nat) : Int)), .int (zI ((q + 1 : Nat) : Int))])), (df, .inr (3, [.ref dfw])), (dfw, .inl (c 2, 4 * 255, .inr (.inl fw))), (di, .inr (3, [.ref diw])), (diw, .inl (c 2, 4 * 40, .inr (.inl iw))), (dl, .inr (3, [.ref dlw])), (dlw, .inl (c 2, 4 * 40, .inr (.inl lw))), (dm, .inl (c 1, 40, .inl (fun j => zB (mb j))))] := ⟨hD0.1, fun k q h => List.mem_map.mpr ⟨q, List.mem_of_getElem? h, rfl⟩⟩
  generalize hAe : zA [(x, .inr (4, [.ref d, .ref xm, .ref rd, .int (zI ((mk : Nat) : Int))])), (d, .inr (0, [.ref dn, .ref df, .ref di, .ref dl, .ref dm, .int (zI ((nc : Nat) : Int)), .int (zI ((q + 1 : Nat) : Int))])), (df, .inr (3, [.ref dfw])), (dfw, .inl (c 2, 4 * 255, .inr (.inl fw))), (di, .inr (3, [.ref diw])), (diw, .inl (c 2, 4 * 40, .inr (.inl iw))), (dl, .inr (3, [.ref dlw])), (dlw, .inl (c 2, 4 * 40, .inr (.inl lw))), (dm, .inl (c 1, 40, .inl (fun j => zB (mb j))))] = A at hD ⊢
  have hS : va_S A s.heap s.heap [] := va_S.rf
  have hP : va_P D vwCl [(x, .inr (4, [.ref d, .ref xm, .ref rd, .int (zI ((mk : Nat) : Int))])), (d, .inr (0, [.ref dn, .ref df, .ref di, .ref dl, .ref dm, .int (zI ((nc : Nat) : Int)), .int (zI ((q + 1 : Nat) : Int))])), (df, .inr (3, [.ref dfw])), (dfw, .inl (c 2, 4 * 255, .inr (.inl fw))), (di, .inr (3, [.ref diw])), (diw, .inl (c 2, 4 * 40, .inr (.inl iw))), (dl, .inr (3, [.ref dlw])), (dlw, .inl (c 2, 4 * 40, .inr (.inl lw))), (dm, .inl (c 1, 40, .inl (fun j => zB (mb j))))] s.heap := hP
  have hl := lv_entry ([.ref x, .int (zI 2)]) (n := 2) (Nat.le_of_ble_eq_true rfl)
  rw [lg_entry_eq]
  generalize (lg_sl ([.ref x, .int (zI 2)]) ++ List.replicate (2 - (lg_sl ([.ref x, .int (zI 2)])).length) Slot.unset).toArray = ls at hl ⊢
  have hl : lv_has ls 2 [(0, .ref x), (1, .int (zI 2))] := hl
  generalize hQ : MQ below _ _ _ _ _ _ = Q
  refine lv_aload_n hx hb d_To_often_0 rfl (lv_at hl 0 rfl) ?_
  refine va_get (D := D) (ci := 4) (v := .ref d) (C := R_To) (T := T_To) (N := 4) hx hb hts (fun w h => List.mem_cons_of_mem _ (inA_To w h)) hown hK hP 0 rfl rfl 0 (by decide) (hw k_To_f12) (fun _ h9 => h9) rfl d_To_often_1 ?_
  refine lv_iload_n hx hb d_To_often_4 rfl (lv_at hl 1 rfl) ?_
  have hPc : va_P D vwCl [(d, .inr (0, [.ref dn, .ref df, .ref di, .ref dl, .ref dm, .int (zI ((nc : Nat) : Int)), .int (zI ((q + 1 : Nat) : Int))])), (df, .inr (3, [.ref dfw])), (dfw, .inl (c 2, 4 * 255, .inr (.inl fw))), (di, .inr (3, [.ref diw])), (diw, .inl (c 2, 4 * 40, .inr (.inl iw))), (dl, .inr (3, [.ref dlw])), (dlw, .inl (c 2, 4 * 40, .inr (.inl lw))), (dm, .inl (c 1, 40, .inl (fun j => zB (mb j))))] s.heap := hP.sub (ws' := [(d, .inr (0, [.ref dn, .ref df, .ref di, .ref dl, .ref dm, .int (zI ((nc : Nat) : Int)), .int (zI ((q + 1 : Nat) : Int))])), (df, .inr (3, [.ref dfw])), (dfw, .inl (c 2, 4 * 255, .inr (.inl fw))), (di, .inr (3, [.ref diw])), (diw, .inl (c 2, 4 * 40, .inr (.inl iw))), (dl, .inr (3, [.ref dlw])), (dlw, .inl (c 2, 4 * 40, .inr (.inl lw))), (dm, .inl (c 1, 40, .inl (fun j => zB (mb j))))]) [1, 2, 3, 4, 5, 6, 7, 8] rfl
  have hDc : va_D A [(d, .inr (0, [.ref dn, .ref df, .ref di, .ref dl, .ref dm, .int (zI ((nc : Nat) : Int)), .int (zI ((q + 1 : Nat) : Int))])), (df, .inr (3, [.ref dfw])), (dfw, .inl (c 2, 4 * 255, .inr (.inl fw))), (di, .inr (3, [.ref diw])), (diw, .inl (c 2, 4 * 40, .inr (.inl iw))), (dl, .inr (3, [.ref dlw])), (dlw, .inl (c 2, 4 * 40, .inr (.inl lw))), (dm, .inl (c 1, 40, .inl (fun j => zB (mb j))))] := hD.sub (ws' := [(d, .inr (0, [.ref dn, .ref df, .ref di, .ref dl, .ref dm, .int (zI ((nc : Nat) : Int)), .int (zI ((q + 1 : Nat) : Int))])), (df, .inr (3, [.ref dfw])), (dfw, .inl (c 2, 4 * 255, .inr (.inl fw))), (di, .inr (3, [.ref diw])), (diw, .inl (c 2, 4 * 40, .inr (.inl iw))), (dl, .inr (3, [.ref dlw])), (dlw, .inl (c 2, 4 * 40, .inr (.inl lw))), (dm, .inl (c 1, 40, .inl (fun j => zB (mb j))))]) [1, 2, 3, 4, 5, 6, 7, 8] (by decide) rfl
  have hDt : va_D (fun _ => True) [(d, .inr (0, [.ref dn, .ref df, .ref di, .ref dl, .ref dm, .int (zI ((nc : Nat) : Int)), .int (zI ((q + 1 : Nat) : Int))])), (df, .inr (3, [.ref dfw])), (dfw, .inl (c 2, 4 * 255, .inr (.inl fw))), (di, .inr (3, [.ref diw])), (diw, .inl (c 2, 4 * 40, .inr (.inl iw))), (dl, .inr (3, [.ref dlw])), (dlw, .inl (c 2, 4 * 40, .inr (.inl lw))), (dm, .inl (c 1, 40, .inl (fun j => zB (mb j))))] := hDc.weaken (fun _ _ _ _ => trivial)
  refine z_calli (S := Unit) (w1 := fun u => [(d, .inr (0, [.ref dn, .ref df, .ref di, .ref dl, .ref dm, .int (zI ((nc : Nat) : Int)), .int (zI ((q + 1 : Nat) : Int))])), (df, .inr (3, [.ref dfw])), (dfw, .inl (c 2, 4 * 255, .inr (.inl (lfw fw iw lw q q nc)))), (di, .inr (3, [.ref diw])), (diw, .inl (c 2, 4 * 40, .inr (.inl iw))), (dl, .inr (3, [.ref dlw])), (dlw, .inl (c 2, 4 * 40, .inr (.inl lw))), (dm, .inl (c 1, 40, .inl (fun j => zB ((va_up mb q true) j))))]) (post := fun r u => r = (zB true) ∧ True) (wc := [(d, .inr (0, [.ref dn, .ref df, .ref di, .ref dl, .ref dm, .int (zI ((nc : Nat) : Int)), .int (zI ((q + 1 : Nat) : Int))])), (df, .inr (3, [.ref dfw])), (dfw, .inl (c 2, 4 * 255, .inr (.inl fw))), (di, .inr (3, [.ref diw])), (diw, .inl (c 2, 4 * 40, .inr (.inl iw))), (dl, .inr (3, [.ref dlw])), (dlw, .inl (c 2, 4 * 40, .inr (.inl lw))), (dm, .inl (c 1, 40, .inl (fun j => zB (mb j))))]) [1, 2, 3, 4, 5, 6, 7, 8] rfl (fun _ => rfl) hP hD hS (va_runV (rm := rm_repeatLast2) (As := [.int (zI 2)]) (rest := []) ⟨hx, hb, hml, hown, hts⟩ (c_repeatLast2 l D c d dn df dfw di diw dl dlw dm nm fw iw lw mb nc q (by omega) (by omega)) (cwV 1 hts (gWV k_To_m50 k_i_Dr_repeatLast k_v_Dr_repeatLast k_n_Dr k_c_Dr_repeatLast) rfl rfl rfl (by decide +kernel) ⟨Nat.le_of_ble_eq_true rfl, Nat.le_of_ble_eq_true rfl⟩) ⟨zblindW, va_recv hK hPc (ci := 0) (q0 := 0) rfl rfl, fun U hU hW => ⟨rfl, ⟨by rw [hU]; exact hPc, hDt⟩, hKN.moved hW⟩⟩ rfl rfl hl.1 rfl (lv_room (Nat.le_of_ble_eq_true rfl)) d_To_often_5 ⟨Nat.zero_le _, Nat.zero_le _⟩) (fun r u H locs hp_1 hP hD hS => ?_)
  obtain ⟨hr_1, hp_1⟩ := hp_1
  subst hr_1
  have hP : va_P D vwCl [(x, .inr (4, [.ref d, .ref xm, .ref rd, .int (zI ((mk : Nat) : Int))])), (d, .inr (0, [.ref dn, .ref df, .ref di, .ref dl, .ref dm, .int (zI ((nc : Nat) : Int)), .int (zI ((q + 1 : Nat) : Int))])), (df, .inr (3, [.ref dfw])), (dfw, .inl (c 2, 4 * 255, .inr (.inl (lfw fw iw lw q q nc)))), (di, .inr (3, [.ref diw])), (diw, .inl (c 2, 4 * 40, .inr (.inl iw))), (dl, .inr (3, [.ref dlw])), (dlw, .inl (c 2, 4 * 40, .inr (.inl lw))), (dm, .inl (c 1, 40, .inl (fun j => zB ((va_up mb q true) j))))] H := hP
  have hD : va_D A [(x, .inr (4, [.ref d, .ref xm, .ref rd, .int (zI ((mk : Nat) : Int))])), (d, .inr (0, [.ref dn, .ref df, .ref di, .ref dl, .ref dm, .int (zI ((nc : Nat) : Int)), .int (zI ((q + 1 : Nat) : Int))])), (df, .inr (3, [.ref dfw])), (dfw, .inl (c 2, 4 * 255, .inr (.inl (lfw fw iw lw q q nc)))), (di, .inr (3, [.ref diw])), (diw, .inl (c 2, 4 * 40, .inr (.inl iw))), (dl, .inr (3, [.ref dlw])), (dlw, .inl (c 2, 4 * 40, .inr (.inl lw))), (dm, .inl (c 1, 40, .inl (fun j => zB ((va_up mb q true) j))))] := hD
  subst hQ
  exact W.zret (ty := .boolean) (v := (zB true)) hx hb hr (z_narB _) (fun t9 ht hW => ⟨⟨_, (), rfl, ⟨rfl, trivial⟩, by show va_P _ _ _ t9.heap; rw [ht]; exact hP⟩, hS.F ht⟩) hS.2.2 d_To_often_8

def rm_often3 : Room := { frames := 5, cells := 0, slots := 0, locals := 110 }
set_option maxHeartbeats 4000000 in
set_option maxRecDepth 100000 in
/-- often(3) -/
theorem c_often3 (l : Launch) (D : va_G) (c : Nat → ClassId) (x : Nat) (xm : Nat) (rd : Nat) (d : Nat) (dn : Nat) (df : Nat) (dfw : Nat) (di : Nat) (diw : Nat) (dl : Nat) (dlw : Nat) (dm : Nat) (mg : Nat → Option Nat) (mk : Nat) (nm : Nat → Nat) (fw : Nat → Int64) (iw : Nat → Int64) (lw : Nat → Int64) (mb : Nat → Bool) (nc : Nat) (q : Nat) (hp : q + 1 ≤ 40) (hc : nc ≤ 255) : Met l y_To_often w_To_often rm_often3 (va_Pc [.ref x, .int (zI 3)] (fun U => (va_P D vwCl [(x, .inr (4, [.ref d, .ref xm, .ref rd, .int (zI ((mk : Nat) : Int))])), (d, .inr (0, [.ref dn, .ref df, .ref di, .ref dl, .ref dm, .int (zI ((nc : Nat) : Int)), .int (zI ((q + 1 : Nat) : Int))])), (df, .inr (3, [.ref dfw])), (dfw, .inl (c 2, 4 * 255, .inr (.inl fw))), (di, .inr (3, [.ref diw])), (diw, .inl (c 2, 4 * 40, .inr (.inl iw))), (dl, .inr (3, [.ref dlw])), (dlw, .inl (c 2, 4 * 40, .inr (.inl lw))), (dm, .inl (c 1, 40, .inl (fun j => zB (mb j))))] U.heap ∧ va_D (fun _ => True) [(x, .inr (4, [.ref d, .ref xm, .ref rd, .int (zI ((mk : Nat) : Int))])), (d, .inr (0, [.ref dn, .ref df, .ref di, .ref dl, .ref dm, .int (zI ((nc : Nat) : Int)), .int (zI ((q + 1 : Nat) : Int))])), (df, .inr (3, [.ref dfw])), (dfw, .inl (c 2, 4 * 255, .inr (.inl fw))), (di, .inr (3, [.ref diw])), (diw, .inl (c 2, 4 * 40, .inr (.inl iw))), (dl, .inr (3, [.ref dlw])), (dlw, .inl (c 2, 4 * 40, .inr (.inl lw))), (dm, .inl (c 1, 40, .inl (fun j => zB (mb j))))]) ∧ zK D c U)) (va_Qi (fun (r : Int32) (u : Unit) => r = (zB true) ∧ True) (fun (u : Unit) t9 => va_P D vwCl [(x, .inr (4, [.ref d, .ref xm, .ref rd, .int (zI ((mk : Nat) : Int))])), (d, .inr (0, [.ref dn, .ref df, .ref di, .ref dl, .ref dm, .int (zI ((nc : Nat) : Int)), .int (zI ((q + 1 : Nat) : Int))])), (df, .inr (3, [.ref dfw])), (dfw, .inl (c 2, 4 * 255, .inr (.inl (lfw fw iw lw q q nc)))), (di, .inr (3, [.ref diw])), (diw, .inl (c 2, 4 * 40, .inr (.inl iw))), (dl, .inr (3, [.ref dlw])), (dlw, .inl (c 2, 4 * 40, .inr (.inl lw))), (dm, .inl (c 1, 40, .inl (fun j => zB (mb j))))] t9.heap) (zA [(x, .inr (4, [.ref d, .ref xm, .ref rd, .int (zI ((mk : Nat) : Int))])), (d, .inr (0, [.ref dn, .ref df, .ref di, .ref dl, .ref dm, .int (zI ((nc : Nat) : Int)), .int (zI ((q + 1 : Nat) : Int))])), (df, .inr (3, [.ref dfw])), (dfw, .inl (c 2, 4 * 255, .inr (.inl fw))), (di, .inr (3, [.ref diw])), (diw, .inl (c 2, 4 * 40, .inr (.inl iw))), (dl, .inr (3, [.ref dlw])), (dlw, .inl (c 2, 4 * 40, .inr (.inl lw))), (dm, .inl (c 1, 40, .inl (fun j => zB (mb j))))])) 0 0 (zA [(x, .inr (4, [.ref d, .ref xm, .ref rd, .int (zI ((mk : Nat) : Int))])), (d, .inr (0, [.ref dn, .ref df, .ref di, .ref dl, .ref dm, .int (zI ((nc : Nat) : Int)), .int (zI ((q + 1 : Nat) : Int))])), (df, .inr (3, [.ref dfw])), (dfw, .inl (c 2, 4 * 255, .inr (.inl fw))), (di, .inr (3, [.ref diw])), (diw, .inl (c 2, 4 * 40, .inr (.inl iw))), (dl, .inr (3, [.ref dlw])), (dlw, .inl (c 2, 4 * 40, .inr (.inl lw))), (dm, .inl (c 1, 40, .inl (fun j => zB (mb j))))]) := by
  refine Met.ofW (cc := b_To_often) (maxL := 2) (ret := (some .boolean)) (by decide) rfl ?_
  intro p e s m args below meth c0 s₁ B hml hv
  obtain ⟨rfl, ⟨hP, hD0⟩, hKN⟩ := hv
  have hK := hKN.1
  have hN := hKN.2
  have hx := B.exec
  have hb := B.bytes
  have hr := B.returns
  have hts := atoms_spec (ws := w_To_often) B.pre
  have hw : ∀ {w : Cond}, w ∈ ALLW → w.before _ s = true := fun h => hts _ (List.mem_cons_of_mem _ h)
  have hown : s.vm.findClass R_To = some m.cls := findClass_of_methodNamed B.named
  have hlocks := B.notSynchronized
  have hD : va_D (zA [(x, .inr (4, [.ref d, .ref xm, .ref rd, .int (zI ((mk : Nat) : Int))])), (d, .inr (0, [.ref dn, .ref df, .ref di, .ref dl, .ref dm, .int (zI ((nc : Nat) : Int)), .int (zI ((q + 1 : Nat) : Int))])), (df, .inr (3, [.ref dfw])), (dfw, .inl (c 2, 4 * 255, .inr (.inl fw))), (di, .inr (3, [.ref diw])), (diw, .inl (c 2, 4 * 40, .inr (.inl iw))), (dl, .inr (3, [.ref dlw])), (dlw, .inl (c 2, 4 * 40, .inr (.inl lw))), (dm, .inl (c 1, 40, .inl (fun j => zB (mb j))))]) [(x, .inr (4, [.ref d, .ref xm, .ref rd, .int (zI ((mk : Nat) : Int))])), (d, .inr (0, [.ref dn, .ref df, .ref di, .ref dl, .ref dm, .int (zI ((nc : Nat) : Int)), .int (zI ((q + 1 : Nat) : Int))])), (df, .inr (3, [.ref dfw])), (dfw, .inl (c 2, 4 * 255, .inr (.inl fw))), (di, .inr (3, [.ref diw])), (diw, .inl (c 2, 4 * 40, .inr (.inl iw))), (dl, .inr (3, [.ref dlw])), (dlw, .inl (c 2, 4 * 40, .inr (.inl lw))), (dm, .inl (c 1, 40, .inl (fun j => zB (mb j))))] := ⟨hD0.1, fun k q h => List.mem_map.mpr ⟨q, List.mem_of_getElem? h, rfl⟩⟩
  generalize hAe : zA [(x, .inr (4, [.ref d, .ref xm, .ref rd, .int (zI ((mk : Nat) : Int))])), (d, .inr (0, [.ref dn, .ref df, .ref di, .ref dl, .ref dm, .int (zI ((nc : Nat) : Int)), .int (zI ((q + 1 : Nat) : Int))])), (df, .inr (3, [.ref dfw])), (dfw, .inl (c 2, 4 * 255, .inr (.inl fw))), (di, .inr (3, [.ref diw])), (diw, .inl (c 2, 4 * 40, .inr (.inl iw))), (dl, .inr (3, [.ref dlw])), (dlw, .inl (c 2, 4 * 40, .inr (.inl lw))), (dm, .inl (c 1, 40, .inl (fun j => zB (mb j))))] = A at hD ⊢
  have hS : va_S A s.heap s.heap [] := va_S.rf
  have hP : va_P D vwCl [(x, .inr (4, [.ref d, .ref xm, .ref rd, .int (zI ((mk : Nat) : Int))])), (d, .inr (0, [.ref dn, .ref df, .ref di, .ref dl, .ref dm, .int (zI ((nc : Nat) : Int)), .int (zI ((q + 1 : Nat) : Int))])), (df, .inr (3, [.ref dfw])), (dfw, .inl (c 2, 4 * 255, .inr (.inl fw))), (di, .inr (3, [.ref diw])), (diw, .inl (c 2, 4 * 40, .inr (.inl iw))), (dl, .inr (3, [.ref dlw])), (dlw, .inl (c 2, 4 * 40, .inr (.inl lw))), (dm, .inl (c 1, 40, .inl (fun j => zB (mb j))))] s.heap := hP
  have hl := lv_entry ([.ref x, .int (zI 3)]) (n := 2) (Nat.le_of_ble_eq_true rfl)
  rw [lg_entry_eq]
  generalize (lg_sl ([.ref x, .int (zI 3)]) ++ List.replicate (2 - (lg_sl ([.ref x, .int (zI 3)])).length) Slot.unset).toArray = ls at hl ⊢
  have hl : lv_has ls 2 [(0, .ref x), (1, .int (zI 3))] := hl
  generalize hQ : MQ below _ _ _ _ _ _ = Q
  refine lv_aload_n hx hb d_To_often_0 rfl (lv_at hl 0 rfl) ?_
  refine va_get (D := D) (ci := 4) (v := .ref d) (C := R_To) (T := T_To) (N := 4) hx hb hts (fun w h => List.mem_cons_of_mem _ (inA_To w h)) hown hK hP 0 rfl rfl 0 (by decide) (hw k_To_f12) (fun _ h9 => h9) rfl d_To_often_1 ?_
  refine lv_iload_n hx hb d_To_often_4 rfl (lv_at hl 1 rfl) ?_
  have hPc : va_P D vwCl [(d, .inr (0, [.ref dn, .ref df, .ref di, .ref dl, .ref dm, .int (zI ((nc : Nat) : Int)), .int (zI ((q + 1 : Nat) : Int))])), (df, .inr (3, [.ref dfw])), (dfw, .inl (c 2, 4 * 255, .inr (.inl fw))), (di, .inr (3, [.ref diw])), (diw, .inl (c 2, 4 * 40, .inr (.inl iw))), (dl, .inr (3, [.ref dlw])), (dlw, .inl (c 2, 4 * 40, .inr (.inl lw))), (dm, .inl (c 1, 40, .inl (fun j => zB (mb j))))] s.heap := hP.sub (ws' := [(d, .inr (0, [.ref dn, .ref df, .ref di, .ref dl, .ref dm, .int (zI ((nc : Nat) : Int)), .int (zI ((q + 1 : Nat) : Int))])), (df, .inr (3, [.ref dfw])), (dfw, .inl (c 2, 4 * 255, .inr (.inl fw))), (di, .inr (3, [.ref diw])), (diw, .inl (c 2, 4 * 40, .inr (.inl iw))), (dl, .inr (3, [.ref dlw])), (dlw, .inl (c 2, 4 * 40, .inr (.inl lw))), (dm, .inl (c 1, 40, .inl (fun j => zB (mb j))))]) [1, 2, 3, 4, 5, 6, 7, 8] rfl
  have hDc : va_D A [(d, .inr (0, [.ref dn, .ref df, .ref di, .ref dl, .ref dm, .int (zI ((nc : Nat) : Int)), .int (zI ((q + 1 : Nat) : Int))])), (df, .inr (3, [.ref dfw])), (dfw, .inl (c 2, 4 * 255, .inr (.inl fw))), (di, .inr (3, [.ref diw])), (diw, .inl (c 2, 4 * 40, .inr (.inl iw))), (dl, .inr (3, [.ref dlw])), (dlw, .inl (c 2, 4 * 40, .inr (.inl lw))), (dm, .inl (c 1, 40, .inl (fun j => zB (mb j))))] := hD.sub (ws' := [(d, .inr (0, [.ref dn, .ref df, .ref di, .ref dl, .ref dm, .int (zI ((nc : Nat) : Int)), .int (zI ((q + 1 : Nat) : Int))])), (df, .inr (3, [.ref dfw])), (dfw, .inl (c 2, 4 * 255, .inr (.inl fw))), (di, .inr (3, [.ref diw])), (diw, .inl (c 2, 4 * 40, .inr (.inl iw))), (dl, .inr (3, [.ref dlw])), (dlw, .inl (c 2, 4 * 40, .inr (.inl lw))), (dm, .inl (c 1, 40, .inl (fun j => zB (mb j))))]) [1, 2, 3, 4, 5, 6, 7, 8] (by decide) rfl
  have hDt : va_D (fun _ => True) [(d, .inr (0, [.ref dn, .ref df, .ref di, .ref dl, .ref dm, .int (zI ((nc : Nat) : Int)), .int (zI ((q + 1 : Nat) : Int))])), (df, .inr (3, [.ref dfw])), (dfw, .inl (c 2, 4 * 255, .inr (.inl fw))), (di, .inr (3, [.ref diw])), (diw, .inl (c 2, 4 * 40, .inr (.inl iw))), (dl, .inr (3, [.ref dlw])), (dlw, .inl (c 2, 4 * 40, .inr (.inl lw))), (dm, .inl (c 1, 40, .inl (fun j => zB (mb j))))] := hDc.weaken (fun _ _ _ _ => trivial)
  refine z_calli (S := Unit) (w1 := fun u => [(d, .inr (0, [.ref dn, .ref df, .ref di, .ref dl, .ref dm, .int (zI ((nc : Nat) : Int)), .int (zI ((q + 1 : Nat) : Int))])), (df, .inr (3, [.ref dfw])), (dfw, .inl (c 2, 4 * 255, .inr (.inl (lfw fw iw lw q q nc)))), (di, .inr (3, [.ref diw])), (diw, .inl (c 2, 4 * 40, .inr (.inl iw))), (dl, .inr (3, [.ref dlw])), (dlw, .inl (c 2, 4 * 40, .inr (.inl lw))), (dm, .inl (c 1, 40, .inl (fun j => zB (mb j))))]) (post := fun r u => r = (zB true) ∧ True) (wc := [(d, .inr (0, [.ref dn, .ref df, .ref di, .ref dl, .ref dm, .int (zI ((nc : Nat) : Int)), .int (zI ((q + 1 : Nat) : Int))])), (df, .inr (3, [.ref dfw])), (dfw, .inl (c 2, 4 * 255, .inr (.inl fw))), (di, .inr (3, [.ref diw])), (diw, .inl (c 2, 4 * 40, .inr (.inl iw))), (dl, .inr (3, [.ref dlw])), (dlw, .inl (c 2, 4 * 40, .inr (.inl lw))), (dm, .inl (c 1, 40, .inl (fun j => zB (mb j))))]) [1, 2, 3, 4, 5, 6, 7, 8] rfl (fun _ => rfl) hP hD hS (va_runV (rm := rm_repeatLast3) (As := [.int (zI 3)]) (rest := []) ⟨hx, hb, hml, hown, hts⟩ (c_repeatLast3 l D c d dn df dfw di diw dl dlw dm nm fw iw lw mb nc q (by omega) (by omega)) (cwV 1 hts (gWV k_To_m50 k_i_Dr_repeatLast k_v_Dr_repeatLast k_n_Dr k_c_Dr_repeatLast) rfl rfl rfl (by decide +kernel) ⟨Nat.le_of_ble_eq_true rfl, Nat.le_of_ble_eq_true rfl⟩) ⟨zblindW, va_recv hK hPc (ci := 0) (q0 := 0) rfl rfl, fun U hU hW => ⟨rfl, ⟨by rw [hU]; exact hPc, hDt⟩, hKN.moved hW⟩⟩ rfl rfl hl.1 rfl (lv_room (Nat.le_of_ble_eq_true rfl)) d_To_often_5 ⟨Nat.zero_le _, Nat.zero_le _⟩) (fun r u H locs hp_1 hP hD hS => ?_)
  obtain ⟨hr_1, hp_1⟩ := hp_1
  subst hr_1
  have hP : va_P D vwCl [(x, .inr (4, [.ref d, .ref xm, .ref rd, .int (zI ((mk : Nat) : Int))])), (d, .inr (0, [.ref dn, .ref df, .ref di, .ref dl, .ref dm, .int (zI ((nc : Nat) : Int)), .int (zI ((q + 1 : Nat) : Int))])), (df, .inr (3, [.ref dfw])), (dfw, .inl (c 2, 4 * 255, .inr (.inl (lfw fw iw lw q q nc)))), (di, .inr (3, [.ref diw])), (diw, .inl (c 2, 4 * 40, .inr (.inl iw))), (dl, .inr (3, [.ref dlw])), (dlw, .inl (c 2, 4 * 40, .inr (.inl lw))), (dm, .inl (c 1, 40, .inl (fun j => zB (mb j))))] H := hP
  have hD : va_D A [(x, .inr (4, [.ref d, .ref xm, .ref rd, .int (zI ((mk : Nat) : Int))])), (d, .inr (0, [.ref dn, .ref df, .ref di, .ref dl, .ref dm, .int (zI ((nc : Nat) : Int)), .int (zI ((q + 1 : Nat) : Int))])), (df, .inr (3, [.ref dfw])), (dfw, .inl (c 2, 4 * 255, .inr (.inl (lfw fw iw lw q q nc)))), (di, .inr (3, [.ref diw])), (diw, .inl (c 2, 4 * 40, .inr (.inl iw))), (dl, .inr (3, [.ref dlw])), (dlw, .inl (c 2, 4 * 40, .inr (.inl lw))), (dm, .inl (c 1, 40, .inl (fun j => zB (mb j))))] := hD
  subst hQ
  exact W.zret (ty := .boolean) (v := (zB true)) hx hb hr (z_narB _) (fun t9 ht hW => ⟨⟨_, (), rfl, ⟨rfl, trivial⟩, by show va_P _ _ _ t9.heap; rw [ht]; exact hP⟩, hS.F ht⟩) hS.2.2 d_To_often_8

def rm_clear : Room := { frames := 1, cells := 0, slots := 0, locals := 20 }
set_option maxHeartbeats 4000000 in
set_option maxRecDepth 100000 in
/-- clear -/
theorem c_clear (l : Launch) (D : va_G) (c : Nat → ClassId) (x : Nat) (xm : Nat) (rd : Nat) (d : Nat) (dn : Nat) (df : Nat) (dfw : Nat) (di : Nat) (diw : Nat) (dl : Nat) (dlw : Nat) (dm : Nat) (mg : Nat → Option Nat) (mk : Nat) (nm : Nat → Nat) (fw : Nat → Int64) (iw : Nat → Int64) (lw : Nat → Int64) (mb : Nat → Bool) (nc : Nat) (pp : Nat)  : Met l y_To_clear w_To_clear rm_clear (va_Pc [.ref x] (fun U => (va_P D vwCl [(x, .inr (4, [.ref d, .ref xm, .ref rd, .int (zI ((mk : Nat) : Int))])), (d, .inr (0, [.ref dn, .ref df, .ref di, .ref dl, .ref dm, .int (zI ((nc : Nat) : Int)), .int (zI ((pp : Nat) : Int))]))] U.heap ∧ va_D (fun _ => True) [(x, .inr (4, [.ref d, .ref xm, .ref rd, .int (zI ((mk : Nat) : Int))])), (d, .inr (0, [.ref dn, .ref df, .ref di, .ref dl, .ref dm, .int (zI ((nc : Nat) : Int)), .int (zI ((pp : Nat) : Int))]))]) ∧ zK D c U)) (va_Qi (fun (r : Int32) (u : Unit) => r = (zI ((pp : Nat) : Int)) ∧ True) (fun (u : Unit) t9 => va_P D vwCl [(x, .inr (4, [.ref d, .ref xm, .ref rd, .int (zI ((mk : Nat) : Int))])), (d, .inr (0, [.ref dn, .ref df, .ref di, .ref dl, .ref dm, .int (zI 0), .int (zI 0)]))] t9.heap) (zA [(x, .inr (4, [.ref d, .ref xm, .ref rd, .int (zI ((mk : Nat) : Int))])), (d, .inr (0, [.ref dn, .ref df, .ref di, .ref dl, .ref dm, .int (zI ((nc : Nat) : Int)), .int (zI ((pp : Nat) : Int))]))])) 0 0 (zA [(x, .inr (4, [.ref d, .ref xm, .ref rd, .int (zI ((mk : Nat) : Int))])), (d, .inr (0, [.ref dn, .ref df, .ref di, .ref dl, .ref dm, .int (zI ((nc : Nat) : Int)), .int (zI ((pp : Nat) : Int))]))]) := by
  refine Met.ofW (cc := b_To_clear) (maxL := 2) (ret := (some .int)) (by decide) rfl ?_
  intro p e s m args below meth c0 s₁ B hml hv
  obtain ⟨rfl, ⟨hP, hD0⟩, hKN⟩ := hv
  have hK := hKN.1
  have hN := hKN.2
  have hx := B.exec
  have hb := B.bytes
  have hr := B.returns
  have hts := atoms_spec (ws := w_To_clear) B.pre
  have hw : ∀ {w : Cond}, w ∈ ALLW → w.before _ s = true := fun h => hts _ (List.mem_cons_of_mem _ h)
  have hown : s.vm.findClass R_To = some m.cls := findClass_of_methodNamed B.named
  have hlocks := B.notSynchronized
  have hD : va_D (zA [(x, .inr (4, [.ref d, .ref xm, .ref rd, .int (zI ((mk : Nat) : Int))])), (d, .inr (0, [.ref dn, .ref df, .ref di, .ref dl, .ref dm, .int (zI ((nc : Nat) : Int)), .int (zI ((pp : Nat) : Int))]))]) [(x, .inr (4, [.ref d, .ref xm, .ref rd, .int (zI ((mk : Nat) : Int))])), (d, .inr (0, [.ref dn, .ref df, .ref di, .ref dl, .ref dm, .int (zI ((nc : Nat) : Int)), .int (zI ((pp : Nat) : Int))]))] := ⟨hD0.1, fun k q h => List.mem_map.mpr ⟨q, List.mem_of_getElem? h, rfl⟩⟩
  generalize hAe : zA [(x, .inr (4, [.ref d, .ref xm, .ref rd, .int (zI ((mk : Nat) : Int))])), (d, .inr (0, [.ref dn, .ref df, .ref di, .ref dl, .ref dm, .int (zI ((nc : Nat) : Int)), .int (zI ((pp : Nat) : Int))]))] = A at hD ⊢
  have hS : va_S A s.heap s.heap [] := va_S.rf
  have hP : va_P D vwCl [(x, .inr (4, [.ref d, .ref xm, .ref rd, .int (zI ((mk : Nat) : Int))])), (d, .inr (0, [.ref dn, .ref df, .ref di, .ref dl, .ref dm, .int (zI ((nc : Nat) : Int)), .int (zI ((pp : Nat) : Int))]))] s.heap := hP
  have hl := lv_entry ([.ref x]) (n := 2) (Nat.le_of_ble_eq_true rfl)
  rw [lg_entry_eq]
  generalize (lg_sl ([.ref x]) ++ List.replicate (2 - (lg_sl ([.ref x])).length) Slot.unset).toArray = ls at hl ⊢
  have hl : lv_has ls 2 [(0, .ref x)] := hl
  generalize hQ : MQ below _ _ _ _ _ _ = Q
  refine lv_aload_n hx hb d_To_clear_0 rfl (lv_at hl 0 rfl) ?_
  refine va_get (D := D) (ci := 4) (v := .ref d) (C := R_To) (T := T_To) (N := 4) hx hb hts (fun w h => List.mem_cons_of_mem _ (inA_To w h)) hown hK hP 0 rfl rfl 0 (by decide) (hw k_To_f12) (fun _ h9 => h9) rfl d_To_clear_1 ?_
  refine va_getN (D := D) (ci := 0) (v := .int (zI ((pp : Nat) : Int))) (C := R_Dr) (T := T_Dr) (N := 7) hx hb hts (fun w h => List.mem_cons_of_mem _ (inA_Dr w h)) hown hK hP 1 rfl rfl 6 (by decide) (va_Nw.use rfl hN.2.1) (fun _ h9 => h9) rfl d_To_clear_4 ?_
  refine lv_istore_n (lv' := [(1, .int (zI ((pp : Nat) : Int))), (0, .ref x)]) hx hb d_To_clear_7 rfl hl (by decide) rfl (fun ls hl => ?_)
  refine lv_aload_n hx hb d_To_clear_8 rfl (lv_at hl 1 rfl) ?_
  refine va_get (D := D) (ci := 4) (v := .ref d) (C := R_To) (T := T_To) (N := 4) hx hb hts (fun w h => List.mem_cons_of_mem _ (inA_To w h)) hown hK hP 0 rfl rfl 0 (by decide) (hw k_To_f12) (fun _ h9 => h9) rfl d_To_clear_9 ?_
  have hPc : va_P D vwCl [(d, .inr (0, [.ref dn, .ref df, .ref di, .ref dl, .ref dm, .int (zI ((nc : Nat) : Int)), .int (zI ((pp : Nat) : Int))]))] s.heap := hP.sub (ws' := [(d, .inr (0, [.ref dn, .ref df, .ref di, .ref dl, .ref dm, .int (zI ((nc : Nat) : Int)), .int (zI ((pp : Nat) : Int))]))]) [1] rfl
  have hDc : va_D A [(d, .inr (0, [.ref dn, .ref df, .ref di, .ref dl, .ref dm, .int (zI ((nc : Nat) : Int)), .int (zI ((pp : Nat) : Int))]))] := hD.sub (ws' := [(d, .inr (0, [.ref dn, .ref df, .ref di, .ref dl, .ref dm, .int (zI ((nc : Nat) : Int)), .int (zI ((pp : Nat) : Int))]))]) [1] (by decide) rfl
  have hDt : va_D (fun _ => True) [(d, .inr (0, [.ref dn, .ref df, .ref di, .ref dl, .ref dm, .int (zI ((nc : Nat) : Int)), .int (zI ((pp : Nat) : Int))]))] := hDc.weaken (fun _ _ _ _ => trivial)
  refine z_callv (S := Unit) (w1 := fun u => [(d, .inr (0, [.ref dn, .ref df, .ref di, .ref dl, .ref dm, .int (zI 0), .int (zI 0)]))]) (post := fun u => True) (wc := [(d, .inr (0, [.ref dn, .ref df, .ref di, .ref dl, .ref dm, .int (zI ((nc : Nat) : Int)), .int (zI ((pp : Nat) : Int))]))]) [1] rfl (fun _ => rfl) hP hD hS (va_runV (rm := rm_dropAll) (As := []) (rest := []) ⟨hx, hb, hml, hown, hts⟩ (c_dropAll l D c d dn df dfw di diw dl dlw dm nm fw iw lw mb nc pp) (cwV 0 hts (gWV k_To_m53 k_i_Dr_dropAll k_v_Dr_dropAll k_n_Dr k_c_Dr_dropAll) rfl rfl rfl (by decide +kernel) ⟨Nat.le_of_ble_eq_true rfl, Nat.le_of_ble_eq_true rfl⟩) ⟨zblindW, va_recv hK hPc (ci := 0) (q0 := 0) rfl rfl, fun U hU hW => ⟨rfl, ⟨by rw [hU]; exact hPc, hDt⟩, hKN.moved hW⟩⟩ rfl rfl hl.1 rfl (lv_room (Nat.le_of_ble_eq_true rfl)) d_To_clear_12 ⟨Nat.zero_le _, Nat.zero_le _⟩) (fun u H locs hp_1 hP hD hS => ?_)
  have hP : va_P D vwCl [(x, .inr (4, [.ref d, .ref xm, .ref rd, .int (zI ((mk : Nat) : Int))])), (d, .inr (0, [.ref dn, .ref df, .ref di, .ref dl, .ref dm, .int (zI 0), .int (zI 0)]))] H := hP
  have hD : va_D A [(x, .inr (4, [.ref d, .ref xm, .ref rd, .int (zI ((mk : Nat) : Int))])), (d, .inr (0, [.ref dn, .ref df, .ref di, .ref dl, .ref dm, .int (zI 0), .int (zI 0)]))] := hD
  refine lv_iload_n hx hb d_To_clear_15 rfl (lv_at hl 0 rfl) ?_
  subst hQ
  exact W.iret (v := (zI ((pp : Nat) : Int))) hx hb hr (fun t9 ht hW => ⟨⟨_, (), rfl, ⟨rfl, trivial⟩, by show va_P _ _ _ t9.heap; rw [ht]; exact hP⟩, hS.F ht⟩) hS.2.2 d_To_clear_16

def rm_make_no : Room := { frames := 0, cells := 0, slots := 0, locals := 0 }
set_option maxHeartbeats 4000000 in
set_option maxRecDepth 100000 in
/-- make, refused -/
theorem c_make_no (l : Launch) (D : va_G) (c : Nat → ClassId) (x : Nat) (xm : Nat) (rd : Nat) (d : Nat) (dn : Nat) (df : Nat) (dfw : Nat) (di : Nat) (diw : Nat) (dl : Nat) (dlw : Nat) (dm : Nat) (mg : Nat → Option Nat) (mk : Nat) (nm : Nat → Nat) (fw : Nat → Int64) (iw : Nat → Int64) (lw : Nat → Int64) (mb : Nat → Bool) (nc : Nat) (pp : Nat) (hp : pp ≤ 40) (hm : mk ≤ 50) (hno : ¬ pp = 1 ∨ mk = 50) : Met l y_To_make w_To_make rm_make_no (va_Pc [.ref x] (fun U => va_P D vwCl [(x, .inr (4, [.ref d, .ref xm, .ref rd, .int (zI ((mk : Nat) : Int))])), (xm, .inl (c 3, 50, .inr (.inr (.inr (.inr mg))))), (d, .inr (0, [.ref dn, .ref df, .ref di, .ref dl, .ref dm, .int (zI ((nc : Nat) : Int)), .int (zI ((pp : Nat) : Int))]))] U.heap ∧ zK D c U)) (vp_Si (fun r => r = (zI (-1)))) 0 0 (fun _ => False) := by
  refine Met.ofW (cc := b_To_make) (maxL := 2) (ret := (some .int)) (by decide) rfl ?_
  intro p e s m args below meth c0 s₁ B hml hv
  obtain ⟨rfl, hP, hKN⟩ := hv
  have hK := hKN.1
  have hN := hKN.2
  have hx := B.exec
  have hb := B.bytes
  have hr := B.returns
  have hts := atoms_spec (ws := w_To_make) B.pre
  have hw : ∀ {w : Cond}, w ∈ ALLW → w.before _ s = true := fun h => hts _ (List.mem_cons_of_mem _ h)
  have hown : s.vm.findClass R_To = some m.cls := findClass_of_methodNamed B.named
  have hlocks := B.notSynchronized
  have hl := lv_entry ([.ref x]) (n := 2) (Nat.le_of_ble_eq_true rfl)
  rw [lg_entry_eq]
  generalize (lg_sl ([.ref x]) ++ List.replicate (2 - (lg_sl ([.ref x])).length) Slot.unset).toArray = ls at hl ⊢
  have hl : lv_has ls 2 [(0, .ref x)] := hl
  generalize hQ : MQ below _ _ _ _ _ _ = Q
  refine lv_aload_n hx hb d_To_make_0 rfl (lv_at hl 0 rfl) ?_
  refine va_get (D := D) (ci := 4) (v := .int (zI ((mk : Nat) : Int))) (C := R_To) (T := T_To) (N := 4) hx hb hts (fun w h => List.mem_cons_of_mem _ (inA_To w h)) hown hK hP 0 rfl rfl 3 (by decide) (hw k_To_f29) (fun _ h9 => h9) rfl d_To_make_1 ?_
  refine lv_istore_n (lv' := [(1, .int (zI ((mk : Nat) : Int))), (0, .ref x)]) hx hb d_To_make_4 rfl hl (by decide) rfl (fun ls hl => ?_)
  refine lv_aload_n hx hb d_To_make_5 rfl (lv_at hl 1 rfl) ?_
  refine va_get (D := D) (ci := 4) (v := .ref d) (C := R_To) (T := T_To) (N := 4) hx hb hts (fun w h => List.mem_cons_of_mem _ (inA_To w h)) hown hK hP 0 rfl rfl 0 (by decide) (hw k_To_f12) (fun _ h9 => h9) rfl d_To_make_6 ?_
  refine va_getN (D := D) (ci := 0) (v := .int (zI ((pp : Nat) : Int))) (C := R_Dr) (T := T_Dr) (N := 7) hx hb hts (fun w h => List.mem_cons_of_mem _ (inA_Dr w h)) hown hK hP 2 rfl rfl 6 (by decide) (va_Nw.use rfl hN.2.1) (fun _ h9 => h9) rfl d_To_make_9 ?_
  refine lv_iconst (v := zI 1) hx hb d_To_make_12 (by decide) ?_
  refine z_icmp_ne (tgt := 29) hx hb (by omega) d_To_make_13 (by decide) (fun hc_13 => ?_) (fun hc_13 => ?_)
  · refine lv_iconst (v := zI (-1)) hx hb d_To_make_29 (by decide) ?_
    subst hQ
    exact W.iret (v := (zI (-1))) hx hb hr (fun t9 ht hW => ⟨_, rfl, rfl, ht⟩) (fun q hq => absurd hq List.not_mem_nil) d_To_make_30
  · refine lv_iload_n hx hb d_To_make_16 rfl (lv_at hl 0 rfl) ?_
    refine z_if_lt (tgt := 29) hx hb (by omega) d_To_make_17 (by decide) (fun hc_17 => absurd hc_17 (by omega)) (fun hc_17 => ?_)
    refine lv_iload_n hx hb d_To_make_20 rfl (lv_at hl 0 rfl) ?_
    refine lv_aload_n hx hb d_To_make_21 rfl (lv_at hl 1 rfl) ?_
    refine va_get (D := D) (ci := 4) (v := .ref xm) (C := R_To) (T := T_To) (N := 4) hx hb hts (fun w h => List.mem_cons_of_mem _ (inA_To w h)) hown hK hP 0 rfl rfl 1 (by decide) (hw k_To_f18) (fun _ h9 => h9) rfl d_To_make_22 ?_
    refine z_alen hx hb hK hP 1 3 rfl rfl d_To_make_25 ?_
    refine z_top (v2 := .int (zI (50 : Int))) rfl ?_
    refine z_icmp_lt (tgt := 31) hx hb (by omega) d_To_make_26 (by decide) (fun hc_26 => absurd hc_26 (by omega)) (fun hc_26 => ?_)
    refine lv_iconst (v := zI (-1)) hx hb d_To_make_29 (by decide) ?_
    subst hQ
    exact W.iret (v := (zI (-1))) hx hb hr (fun t9 ht hW => ⟨_, rfl, rfl, ht⟩) (fun q hq => absurd hq List.not_mem_nil) d_To_make_30

def rm_make : Room := { frames := 7, cells := 4, slots := 1283, locals := 156 }
set_option maxHeartbeats 4000000 in
set_option maxRecDepth 100000 in
/-- make -/
theorem c_make (l : Launch) (D : va_G) (c : Nat → ClassId) (x : Nat) (xm : Nat) (rd : Nat) (d : Nat) (dn : Nat) (df : Nat) (dfw : Nat) (di : Nat) (diw : Nat) (dl : Nat) (dlw : Nat) (dm : Nat) (mg : Nat → Option Nat) (mk : Nat) (nm : Nat → Nat) (fw : Nat → Int64) (iw : Nat → Int64) (lw : Nat → Int64) (mb : Nat → Bool) (nc : Nat) (sz : Nat) (hc : nc ≤ 255) (hnm : ∀ j, j < nc → nm j < 1001) (hm : mk < 50) : Met l y_To_make w_To_make rm_make (va_Pc [.ref x] (fun U => (U.heap.size = sz ∧ va_P D vwCl [(x, .inr (4, [.ref d, .ref xm, .ref rd, .int (zI ((mk : Nat) : Int))])), (xm, .inl (c 3, 50, .inr (.inr (.inr (.inr mg))))), (d, .inr (0, [.ref dn, .ref df, .ref di, .ref dl, .ref dm, .int (zI ((nc : Nat) : Int)), .int (zI 1)])), (dn, .inl (c 0, 255, .inl (fun j => zI ((nm j : Nat) : Int)))), (df, .inr (3, [.ref dfw])), (dfw, .inl (c 2, 4 * 255, .inr (.inl fw))), (di, .inr (3, [.ref diw])), (diw, .inl (c 2, 4 * 40, .inr (.inl iw))), (dl, .inr (3, [.ref dlw])), (dlw, .inl (c 2, 4 * 40, .inr (.inl lw))), (dm, .inl (c 1, 40, .inl (fun j => zB (mb j))))] U.heap ∧ va_D (fun _ => True) [(x, .inr (4, [.ref d, .ref xm, .ref rd, .int (zI ((mk : Nat) : Int))])), (xm, .inl (c 3, 50, .inr (.inr (.inr (.inr mg))))), (d, .inr (0, [.ref dn, .ref df, .ref di, .ref dl, .ref dm, .int (zI ((nc : Nat) : Int)), .int (zI 1)])), (dn, .inl (c 0, 255, .inl (fun j => zI ((nm j : Nat) : Int)))), (df, .inr (3, [.ref dfw])), (dfw, .inl (c 2, 4 * 255, .inr (.inl fw))), (di, .inr (3, [.ref diw])), (diw, .inl (c 2, 4 * 40, .inr (.inl iw))), (dl, .inr (3, [.ref dlw])), (dlw, .inl (c 2, 4 * 40, .inr (.inl lw))), (dm, .inl (c 1, 40, .inl (fun j => zB (mb j))))]) ∧ zK D c U)) (va_Qi (fun (r : Int32) (u : Nat × Nat × Nat × Nat × (Nat → Nat)) => r = (zI ((mk : Nat) : Int)) ∧ srt (tmN nm nc) u.2.2.2.2 nc) (fun (u : Nat × Nat × Nat × Nat × (Nat → Nat)) t9 => va_P D vwCl [(x, .inr (4, [.ref d, .ref xm, .ref rd, .int (zI ((mk + 1 : Nat) : Int))])), (xm, .inl (c 3, 50, .inr (.inr (.inr (.inr (va_up mg mk (some u.1))))))), (d, .inr (0, [.ref dn, .ref df, .ref di, .ref dl, .ref dm, .int (zI 0), .int (zI 0)])), (dn, .inl (c 0, 255, .inl (fun j => zI ((nm j : Nat) : Int)))), (df, .inr (3, [.ref dfw])), (dfw, .inl (c 2, 4 * 255, .inr (.inl fw))), (di, .inr (3, [.ref diw])), (diw, .inl (c 2, 4 * 40, .inr (.inl iw))), (dl, .inr (3, [.ref dlw])), (dlw, .inl (c 2, 4 * 40, .inr (.inl lw))), (dm, .inl (c 1, 40, .inl (fun j => zB (mb j)))), (u.1, .inr (1, [.ref u.2.1, .ref u.2.2.1, .int (zB (!twA u.2.2.2.2 (tmE fw iw lw (mb 0) nc) nc (nc + 1)))])), (u.2.1, .inl (c 0, nc, .inl (fun j => zI ((u.2.2.2.2 j : Nat) : Int)))), (u.2.2.1, .inr (3, [.ref u.2.2.2.1])), (u.2.2.2.1, .inl (c 2, 4 * (nc + 1), .inr (.inl (tmE fw iw lw (mb 0) nc))))] t9.heap ∧ va_D (va_A [(x, .inr (4, [.ref d, .ref xm, .ref rd, .int (zI ((mk : Nat) : Int))])), (xm, .inl (c 3, 50, .inr (.inr (.inr (.inr mg))))), (d, .inr (0, [.ref dn, .ref df, .ref di, .ref dl, .ref dm, .int (zI ((nc : Nat) : Int)), .int (zI 1)])), (dn, .inl (c 0, 255, .inl (fun j => zI ((nm j : Nat) : Int)))), (df, .inr (3, [.ref dfw])), (dfw, .inl (c 2, 4 * 255, .inr (.inl fw))), (di, .inr (3, [.ref diw])), (diw, .inl (c 2, 4 * 40, .inr (.inl iw))), (dl, .inr (3, [.ref dlw])), (dlw, .inl (c 2, 4 * 40, .inr (.inl lw))), (dm, .inl (c 1, 40, .inl (fun j => zB (mb j))))] sz) [(x, .inr (4, [.ref d, .ref xm, .ref rd, .int (zI ((mk + 1 : Nat) : Int))])), (xm, .inl (c 3, 50, .inr (.inr (.inr (.inr (va_up mg mk (some u.1))))))), (d, .inr (0, [.ref dn, .ref df, .ref di, .ref dl, .ref dm, .int (zI 0), .int (zI 0)])), (dn, .inl (c 0, 255, .inl (fun j => zI ((nm j : Nat) : Int)))), (df, .inr (3, [.ref dfw])), (dfw, .inl (c 2, 4 * 255, .inr (.inl fw))), (di, .inr (3, [.ref diw])), (diw, .inl (c 2, 4 * 40, .inr (.inl iw))), (dl, .inr (3, [.ref dlw])), (dlw, .inl (c 2, 4 * 40, .inr (.inl lw))), (dm, .inl (c 1, 40, .inl (fun j => zB (mb j)))), (u.1, .inr (1, [.ref u.2.1, .ref u.2.2.1, .int (zB (!twA u.2.2.2.2 (tmE fw iw lw (mb 0) nc) nc (nc + 1)))])), (u.2.1, .inl (c 0, nc, .inl (fun j => zI ((u.2.2.2.2 j : Nat) : Int)))), (u.2.2.1, .inr (3, [.ref u.2.2.2.1])), (u.2.2.2.1, .inl (c 2, 4 * (nc + 1), .inr (.inl (tmE fw iw lw (mb 0) nc))))]) (va_A [(x, .inr (4, [.ref d, .ref xm, .ref rd, .int (zI ((mk : Nat) : Int))])), (xm, .inl (c 3, 50, .inr (.inr (.inr (.inr mg))))), (d, .inr (0, [.ref dn, .ref df, .ref di, .ref dl, .ref dm, .int (zI ((nc : Nat) : Int)), .int (zI 1)])), (dn, .inl (c 0, 255, .inl (fun j => zI ((nm j : Nat) : Int)))), (df, .inr (3, [.ref dfw])), (dfw, .inl (c 2, 4 * 255, .inr (.inl fw))), (di, .inr (3, [.ref diw])), (diw, .inl (c 2, 4 * 40, .inr (.inl iw))), (dl, .inr (3, [.ref dlw])), (dlw, .inl (c 2, 4 * 40, .inr (.inl lw))), (dm, .inl (c 1, 40, .inl (fun j => zB (mb j))))] sz)) 4 1283 (va_A [(x, .inr (4, [.ref d, .ref xm, .ref rd, .int (zI ((mk : Nat) : Int))])), (xm, .inl (c 3, 50, .inr (.inr (.inr (.inr mg))))), (d, .inr (0, [.ref dn, .ref df, .ref di, .ref dl, .ref dm, .int (zI ((nc : Nat) : Int)), .int (zI 1)])), (dn, .inl (c 0, 255, .inl (fun j => zI ((nm j : Nat) : Int)))), (df, .inr (3, [.ref dfw])), (dfw, .inl (c 2, 4 * 255, .inr (.inl fw))), (di, .inr (3, [.ref diw])), (diw, .inl (c 2, 4 * 40, .inr (.inl iw))), (dl, .inr (3, [.ref dlw])), (dlw, .inl (c 2, 4 * 40, .inr (.inl lw))), (dm, .inl (c 1, 40, .inl (fun j => zB (mb j))))] sz) := by
  refine Met.ofW (cc := b_To_make) (maxL := 2) (ret := (some .int)) (by decide) rfl ?_
  intro p e s m args below meth c0 s₁ B hml hv
  obtain ⟨rfl, ⟨hsz, hP, hD0⟩, hKN⟩ := hv
  have hK := hKN.1
  have hN := hKN.2
  have hx := B.exec
  have hb := B.bytes
  have hr := B.returns
  have hts := atoms_spec (ws := w_To_make) B.pre
  have hw : ∀ {w : Cond}, w ∈ ALLW → w.before _ s = true := fun h => hts _ (List.mem_cons_of_mem _ h)
  have hown : s.vm.findClass R_To = some m.cls := findClass_of_methodNamed B.named
  have hlocks := B.notSynchronized
  subst hsz
  have hD := hD0.self (sz := s.heap.size)
  generalize hAe : va_A [(x, .inr (4, [.ref d, .ref xm, .ref rd, .int (zI ((mk : Nat) : Int))])), (xm, .inl (c 3, 50, .inr (.inr (.inr (.inr mg))))), (d, .inr (0, [.ref dn, .ref df, .ref di, .ref dl, .ref dm, .int (zI ((nc : Nat) : Int)), .int (zI 1)])), (dn, .inl (c 0, 255, .inl (fun j => zI ((nm j : Nat) : Int)))), (df, .inr (3, [.ref dfw])), (dfw, .inl (c 2, 4 * 255, .inr (.inl fw))), (di, .inr (3, [.ref diw])), (diw, .inl (c 2, 4 * 40, .inr (.inl iw))), (dl, .inr (3, [.ref dlw])), (dlw, .inl (c 2, 4 * 40, .inr (.inl lw))), (dm, .inl (c 1, 40, .inl (fun j => zB (mb j))))] s.heap.size = A at hD ⊢
  have hA : ∀ q : Nat, s.heap.size ≤ q → A q := fun q h => by rw [← hAe]; exact Or.inr h
  have hS : va_S A s.heap s.heap [] := va_S.rf
  have hP : va_P D vwCl [(x, .inr (4, [.ref d, .ref xm, .ref rd, .int (zI ((mk : Nat) : Int))])), (xm, .inl (c 3, 50, .inr (.inr (.inr (.inr mg))))), (d, .inr (0, [.ref dn, .ref df, .ref di, .ref dl, .ref dm, .int (zI ((nc : Nat) : Int)), .int (zI 1)])), (dn, .inl (c 0, 255, .inl (fun j => zI ((nm j : Nat) : Int)))), (df, .inr (3, [.ref dfw])), (dfw, .inl (c 2, 4 * 255, .inr (.inl fw))), (di, .inr (3, [.ref diw])), (diw, .inl (c 2, 4 * 40, .inr (.inl iw))), (dl, .inr (3, [.ref dlw])), (dlw, .inl (c 2, 4 * 40, .inr (.inl lw))), (dm, .inl (c 1, 40, .inl (fun j => zB (mb j))))] s.heap := hP
  have hl := lv_entry ([.ref x]) (n := 2) (Nat.le_of_ble_eq_true rfl)
  rw [lg_entry_eq]
  generalize (lg_sl ([.ref x]) ++ List.replicate (2 - (lg_sl ([.ref x])).length) Slot.unset).toArray = ls at hl ⊢
  have hl : lv_has ls 2 [(0, .ref x)] := hl
  generalize hQ : MQ below _ _ _ _ _ _ = Q
  refine lv_aload_n hx hb d_To_make_0 rfl (lv_at hl 0 rfl) ?_
  refine va_get (D := D) (ci := 4) (v := .int (zI ((mk : Nat) : Int))) (C := R_To) (T := T_To) (N := 4) hx hb hts (fun w h => List.mem_cons_of_mem _ (inA_To w h)) hown hK hP 0 rfl rfl 3 (by decide) (hw k_To_f29) (fun _ h9 => h9) rfl d_To_make_1 ?_
  refine lv_istore_n (lv' := [(1, .int (zI ((mk : Nat) : Int))), (0, .ref x)]) hx hb d_To_make_4 rfl hl (by decide) rfl (fun ls hl => ?_)
  refine lv_aload_n hx hb d_To_make_5 rfl (lv_at hl 1 rfl) ?_
  refine va_get (D := D) (ci := 4) (v := .ref d) (C := R_To) (T := T_To) (N := 4) hx hb hts (fun w h => List.mem_cons_of_mem _ (inA_To w h)) hown hK hP 0 rfl rfl 0 (by decide) (hw k_To_f12) (fun _ h9 => h9) rfl d_To_make_6 ?_
  refine va_getN (D := D) (ci := 0) (v := .int (zI 1)) (C := R_Dr) (T := T_Dr) (N := 7) hx hb hts (fun w h => List.mem_cons_of_mem _ (inA_Dr w h)) hown hK hP 2 rfl rfl 6 (by decide) (va_Nw.use rfl hN.2.1) (fun _ h9 => h9) rfl d_To_make_9 ?_
  refine lv_iconst (v := zI 1) hx hb d_To_make_12 (by decide) ?_
  refine z_icmp_ne (tgt := 29) hx hb (by omega) d_To_make_13 (by decide) (fun hc_13 => absurd hc_13 (by omega)) (fun hc_13 => ?_)
  refine lv_iload_n hx hb d_To_make_16 rfl (lv_at hl 0 rfl) ?_
  refine z_if_lt (tgt := 29) hx hb (by omega) d_To_make_17 (by decide) (fun hc_17 => absurd hc_17 (by omega)) (fun hc_17 => ?_)
  refine lv_iload_n hx hb d_To_make_20 rfl (lv_at hl 0 rfl) ?_
  refine lv_aload_n hx hb d_To_make_21 rfl (lv_at hl 1 rfl) ?_
  refine va_get (D := D) (ci := 4) (v := .ref xm) (C := R_To) (T := T_To) (N := 4) hx hb hts (fun w h => List.mem_cons_of_mem _ (inA_To w h)) hown hK hP 0 rfl rfl 1 (by decide) (hw k_To_f18) (fun _ h9 => h9) rfl d_To_make_22 ?_
  refine z_alen hx hb hK hP 1 3 rfl rfl d_To_make_25 ?_
  refine z_top (v2 := .int (zI (50 : Int))) rfl ?_
  refine z_icmp_lt (tgt := 31) hx hb (by omega) d_To_make_26 (by decide) (fun hc_26 => ?_) (fun hc_26 => absurd hc_26 (by omega))
  refine lv_aload_n hx hb d_To_make_31 rfl (lv_at hl 1 rfl) ?_
  refine va_get (D := D) (ci := 4) (v := .ref xm) (C := R_To) (T := T_To) (N := 4) hx hb hts (fun w h => List.mem_cons_of_mem _ (inA_To w h)) hown hK hP 0 rfl rfl 1 (by decide) (hw k_To_f18) (fun _ h9 => h9) rfl d_To_make_32 ?_
  refine lv_iload_n hx hb d_To_make_35 rfl (lv_at hl 0 rfl) ?_
  refine lv_aload_n hx hb d_To_make_36 rfl (lv_at hl 1 rfl) ?_
  refine va_get (D := D) (ci := 4) (v := .ref d) (C := R_To) (T := T_To) (N := 4) hx hb hts (fun w h => List.mem_cons_of_mem _ (inA_To w h)) hown hK hP 0 rfl rfl 0 (by decide) (hw k_To_f12) (fun _ h9 => h9) rfl d_To_make_37 ?_
  have hPc : va_P D vwCl [(d, .inr (0, [.ref dn, .ref df, .ref di, .ref dl, .ref dm, .int (zI ((nc : Nat) : Int)), .int (zI ((1 : Nat) : Int))])), (dn, .inl (c 0, 255, .inl (fun j => zI ((nm j : Nat) : Int)))), (df, .inr (3, [.ref dfw])), (dfw, .inl (c 2, 4 * 255, .inr (.inl fw))), (di, .inr (3, [.ref diw])), (diw, .inl (c 2, 4 * 40, .inr (.inl iw))), (dl, .inr (3, [.ref dlw])), (dlw, .inl (c 2, 4 * 40, .inr (.inl lw))), (dm, .inl (c 1, 40, .inl (fun j => zB (mb j))))] s.heap := hP.sub (ws' := [(d, .inr (0, [.ref dn, .ref df, .ref di, .ref dl, .ref dm, .int (zI ((nc : Nat) : Int)), .int (zI ((1 : Nat) : Int))])), (dn, .inl (c 0, 255, .inl (fun j => zI ((nm j : Nat) : Int)))), (df, .inr (3, [.ref dfw])), (dfw, .inl (c 2, 4 * 255, .inr (.inl fw))), (di, .inr (3, [.ref diw])), (diw, .inl (c 2, 4 * 40, .inr (.inl iw))), (dl, .inr (3, [.ref dlw])), (dlw, .inl (c 2, 4 * 40, .inr (.inl lw))), (dm, .inl (c 1, 40, .inl (fun j => zB (mb j))))]) [2, 3, 4, 5, 6, 7, 8, 9, 10] rfl
  have hDc : va_D A [(d, .inr (0, [.ref dn, .ref df, .ref di, .ref dl, .ref dm, .int (zI ((nc : Nat) : Int)), .int (zI ((1 : Nat) : Int))])), (dn, .inl (c 0, 255, .inl (fun j => zI ((nm j : Nat) : Int)))), (df, .inr (3, [.ref dfw])), (dfw, .inl (c 2, 4 * 255, .inr (.inl fw))), (di, .inr (3, [.ref diw])), (diw, .inl (c 2, 4 * 40, .inr (.inl iw))), (dl, .inr (3, [.ref dlw])), (dlw, .inl (c 2, 4 * 40, .inr (.inl lw))), (dm, .inl (c 1, 40, .inl (fun j => zB (mb j))))] := hD.sub (ws' := [(d, .inr (0, [.ref dn, .ref df, .ref di, .ref dl, .ref dm, .int (zI ((nc : Nat) : Int)), .int (zI ((1 : Nat) : Int))])), (dn, .inl (c 0, 255, .inl (fun j => zI ((nm j : Nat) : Int)))), (df, .inr (3, [.ref dfw])), (dfw, .inl (c 2, 4 * 255, .inr (.inl fw))), (di, .inr (3, [.ref diw])), (diw, .inl (c 2, 4 * 40, .inr (.inl iw))), (dl, .inr (3, [.ref dlw])), (dlw, .inl (c 2, 4 * 40, .inr (.inl lw))), (dm, .inl (c 1, 40, .inl (fun j => zB (mb j))))]) [2, 3, 4, 5, 6, 7, 8, 9, 10] (by decide) rfl
  have hDt : va_D (fun _ => True) [(d, .inr (0, [.ref dn, .ref df, .ref di, .ref dl, .ref dm, .int (zI ((nc : Nat) : Int)), .int (zI ((1 : Nat) : Int))])), (dn, .inl (c 0, 255, .inl (fun j => zI ((nm j : Nat) : Int)))), (df, .inr (3, [.ref dfw])), (dfw, .inl (c 2, 4 * 255, .inr (.inl fw))), (di, .inr (3, [.ref diw])), (diw, .inl (c 2, 4 * 40, .inr (.inl iw))), (dl, .inr (3, [.ref dlw])), (dlw, .inl (c 2, 4 * 40, .inr (.inl lw))), (dm, .inl (c 1, 40, .inl (fun j => zB (mb j))))] := hDc.weaken (fun _ _ _ _ => trivial)
  have hFc := va_free (wc := [(d, .inr (0, [.ref dn, .ref df, .ref di, .ref dl, .ref dm, .int (zI ((nc : Nat) : Int)), .int (zI ((1 : Nat) : Int))])), (dn, .inl (c 0, 255, .inl (fun j => zI ((nm j : Nat) : Int)))), (df, .inr (3, [.ref dfw])), (dfw, .inl (c 2, 4 * 255, .inr (.inl fw))), (di, .inr (3, [.ref diw])), (diw, .inl (c 2, 4 * 40, .inr (.inl iw))), (dl, .inr (3, [.ref dlw])), (dlw, .inl (c 2, 4 * 40, .inr (.inl lw))), (dm, .inl (c 1, 40, .inl (fun j => zB (mb j))))]) hD hS hA [2, 3, 4, 5, 6, 7, 8, 9, 10] rfl
  refine va_callr (va_runV (rm := rm_toModel) (As := []) (rest := [.int (zI ((mk : Nat) : Int)), .ref xm]) ⟨hx, hb, hml, hown, hts⟩ (c_toModel l D c d dn df dfw di diw dl dlw dm nm fw iw lw mb nc 1 s.heap.size (by omega) hnm) (cwV 0 hts (gWV k_To_m56 k_i_Dr_toModel k_v_Dr_toModel k_n_Dr k_c_Dr_toModel) rfl rfl rfl (by decide +kernel) ⟨Nat.le_of_ble_eq_true rfl, Nat.le_of_ble_eq_true rfl⟩) ⟨zblindA, va_recv hK hPc (ci := 0) (q0 := 0) rfl rfl, fun U hU hW => ⟨rfl, ⟨by rw [hU], by rw [hU]; exact hPc, hDt⟩, hKN.moved hW⟩⟩ rfl rfl hl.1 rfl (lv_room (Nat.le_of_ble_eq_true rfl)) d_To_make_40 ⟨Nat.le_of_ble_eq_true rfl, Nat.le_of_ble_eq_true rfl⟩) hS (fun q _ h => hFc q h) hFc (fun u mo t9 H1 locs ht hvm hso hB hz1 hk1 hS => ?_)
  obtain ⟨me, ms, msw, en2⟩ := u
  have hso : srt (tmN nm nc) en2 nc := hso
  obtain ⟨hP1, hD1⟩ := hB
  rw [ht] at hP1
  obtain ⟨hP, hD⟩ := va_join (wr := [(x, .inr (4, [.ref d, .ref xm, .ref rd, .int (zI ((mk : Nat) : Int))])), (xm, .inl (c 3, 50, .inr (.inr (.inr (.inr mg)))))]) (w1 := [(d, .inr (0, [.ref dn, .ref df, .ref di, .ref dl, .ref dm, .int (zI ((nc : Nat) : Int)), .int (zI ((1 : Nat) : Int))])), (dn, .inl (c 0, 255, .inl (fun j => zI ((nm j : Nat) : Int)))), (df, .inr (3, [.ref dfw])), (dfw, .inl (c 2, 4 * 255, .inr (.inl fw))), (di, .inr (3, [.ref diw])), (diw, .inl (c 2, 4 * 40, .inr (.inl iw))), (dl, .inr (3, [.ref dlw])), (dlw, .inl (c 2, 4 * 40, .inr (.inl lw))), (dm, .inl (c 1, 40, .inl (fun j => zB (mb j)))), (mo, .inr (1, [.ref me, .ref ms, .int (zB (!twA en2 (tmE fw iw lw (mb 0) nc) nc (nc + 1)))])), (me, .inl (c 0, nc, .inl (fun j => zI ((en2 j : Nat) : Int)))), (ms, .inr (3, [.ref msw])), (msw, .inl (c 2, 4 * (nc + 1), .inr (.inl (tmE fw iw lw (mb 0) nc))))]) hP hD [2, 3, 4, 5, 6, 7, 8, 9, 10] [0, 1] rfl rfl (by decide) (by decide) hk1 hFc hP1 hD1
  generalize H1 = H at hP hS ⊢
  have hP : va_P D vwCl [(x, .inr (4, [.ref d, .ref xm, .ref rd, .int (zI ((mk : Nat) : Int))])), (xm, .inl (c 3, 50, .inr (.inr (.inr (.inr mg))))), (d, .inr (0, [.ref dn, .ref df, .ref di, .ref dl, .ref dm, .int (zI ((nc : Nat) : Int)), .int (zI ((1 : Nat) : Int))])), (dn, .inl (c 0, 255, .inl (fun j => zI ((nm j : Nat) : Int)))), (df, .inr (3, [.ref dfw])), (dfw, .inl (c 2, 4 * 255, .inr (.inl fw))), (di, .inr (3, [.ref diw])), (diw, .inl (c 2, 4 * 40, .inr (.inl iw))), (dl, .inr (3, [.ref dlw])), (dlw, .inl (c 2, 4 * 40, .inr (.inl lw))), (dm, .inl (c 1, 40, .inl (fun j => zB (mb j)))), (mo, .inr (1, [.ref me, .ref ms, .int (zB (!twA en2 (tmE fw iw lw (mb 0) nc) nc (nc + 1)))])), (me, .inl (c 0, nc, .inl (fun j => zI ((en2 j : Nat) : Int)))), (ms, .inr (3, [.ref msw])), (msw, .inl (c 2, 4 * (nc + 1), .inr (.inl (tmE fw iw lw (mb 0) nc))))] H := hP.sub [0, 1, 2, 3, 4, 5, 6, 7, 8, 9, 10, 11, 12, 13, 14] rfl
  have hD : va_D A [(x, .inr (4, [.ref d, .ref xm, .ref rd, .int (zI ((mk : Nat) : Int))])), (xm, .inl (c 3, 50, .inr (.inr (.inr (.inr mg))))), (d, .inr (0, [.ref dn, .ref df, .ref di, .ref dl, .ref dm, .int (zI ((nc : Nat) : Int)), .int (zI ((1 : Nat) : Int))])), (dn, .inl (c 0, 255, .inl (fun j => zI ((nm j : Nat) : Int)))), (df, .inr (3, [.ref dfw])), (dfw, .inl (c 2, 4 * 255, .inr (.inl fw))), (di, .inr (3, [.ref diw])), (diw, .inl (c 2, 4 * 40, .inr (.inl iw))), (dl, .inr (3, [.ref dlw])), (dlw, .inl (c 2, 4 * 40, .inr (.inl lw))), (dm, .inl (c 1, 40, .inl (fun j => zB (mb j)))), (mo, .inr (1, [.ref me, .ref ms, .int (zB (!twA en2 (tmE fw iw lw (mb 0) nc) nc (nc + 1)))])), (me, .inl (c 0, nc, .inl (fun j => zI ((en2 j : Nat) : Int)))), (ms, .inr (3, [.ref msw])), (msw, .inl (c 2, 4 * (nc + 1), .inr (.inl (tmE fw iw lw (mb 0) nc))))] := hD.sub [0, 1, 2, 3, 4, 5, 6, 7, 8, 9, 10, 11, 12, 13, 14] (by decide) rfl
  refine W.widen (k := 4) (n := 1283) (by omega) (by omega) ?_
  refine z_aast hx hb hK hP hD hS 1 3 11 1 rfl rfl rfl rfl (mk) (by omega) (by omega) (by omega) d_To_make_43 (fun H locs hP hD hS => ?_)
  have hP : va_P D vwCl [(x, .inr (4, [.ref d, .ref xm, .ref rd, .int (zI ((mk : Nat) : Int))])), (xm, .inl (c 3, 50, .inr (.inr (.inr (.inr (va_up mg mk (some mo))))))), (d, .inr (0, [.ref dn, .ref df, .ref di, .ref dl, .ref dm, .int (zI ((nc : Nat) : Int)), .int (zI ((1 : Nat) : Int))])), (dn, .inl (c 0, 255, .inl (fun j => zI ((nm j : Nat) : Int)))), (df, .inr (3, [.ref dfw])), (dfw, .inl (c 2, 4 * 255, .inr (.inl fw))), (di, .inr (3, [.ref diw])), (diw, .inl (c 2, 4 * 40, .inr (.inl iw))), (dl, .inr (3, [.ref dlw])), (dlw, .inl (c 2, 4 * 40, .inr (.inl lw))), (dm, .inl (c 1, 40, .inl (fun j => zB (mb j)))), (mo, .inr (1, [.ref me, .ref ms, .int (zB (!twA en2 (tmE fw iw lw (mb 0) nc) nc (nc + 1)))])), (me, .inl (c 0, nc, .inl (fun j => zI ((en2 j : Nat) : Int)))), (ms, .inr (3, [.ref msw])), (msw, .inl (c 2, 4 * (nc + 1), .inr (.inl (tmE fw iw lw (mb 0) nc))))] H := hP
  have hD : va_D A [(x, .inr (4, [.ref d, .ref xm, .ref rd, .int (zI ((mk : Nat) : Int))])), (xm, .inl (c 3, 50, .inr (.inr (.inr (.inr (va_up mg mk (some mo))))))), (d, .inr (0, [.ref dn, .ref df, .ref di, .ref dl, .ref dm, .int (zI ((nc : Nat) : Int)), .int (zI ((1 : Nat) : Int))])), (dn, .inl (c 0, 255, .inl (fun j => zI ((nm j : Nat) : Int)))), (df, .inr (3, [.ref dfw])), (dfw, .inl (c 2, 4 * 255, .inr (.inl fw))), (di, .inr (3, [.ref diw])), (diw, .inl (c 2, 4 * 40, .inr (.inl iw))), (dl, .inr (3, [.ref dlw])), (dlw, .inl (c 2, 4 * 40, .inr (.inl lw))), (dm, .inl (c 1, 40, .inl (fun j => zB (mb j)))), (mo, .inr (1, [.ref me, .ref ms, .int (zB (!twA en2 (tmE fw iw lw (mb 0) nc) nc (nc + 1)))])), (me, .inl (c 0, nc, .inl (fun j => zI ((en2 j : Nat) : Int)))), (ms, .inr (3, [.ref msw])), (msw, .inl (c 2, 4 * (nc + 1), .inr (.inl (tmE fw iw lw (mb 0) nc))))] := hD
  refine lv_aload_n hx hb d_To_make_44 rfl (lv_at hl 1 rfl) ?_
  refine lv_iload_n hx hb d_To_make_45 rfl (lv_at hl 0 rfl) ?_
  refine lv_iconst (v := zI 1) hx hb d_To_make_46 (by decide) ?_
  refine z_iadd hx hb d_To_make_47 ?_
  refine z_top (v2 := .int (zI ((mk + 1 : Nat) : Int))) (congrArg Value.int (congrArg zI (by omega))) ?_
  refine va_put (D := D) (ci := 4) (v := .int (zI ((mk + 1 : Nat) : Int))) (ty := .int) (C := R_To) (T := T_To) (N := 4) hx hb hts (fun w h => List.mem_cons_of_mem _ (inA_To w h)) ty_To tyok_To nm_To hown hK hP hD hS 0 rfl rfl 3 (by decide) (hw k_To_f29) (fun _ h9 => h9) rfl (by decide +kernel) rfl rfl (Nat.le_of_ble_eq_true rfl) d_To_make_48 (fun H locs hP hD hS => ?_)
  have hP : va_P D vwCl [(x, .inr (4, [.ref d, .ref xm, .ref rd, .int (zI ((mk + 1 : Nat) : Int))])), (xm, .inl (c 3, 50, .inr (.inr (.inr (.inr (va_up mg mk (some mo))))))), (d, .inr (0, [.ref dn, .ref df, .ref di, .ref dl, .ref dm, .int (zI ((nc : Nat) : Int)), .int (zI ((1 : Nat) : Int))])), (dn, .inl (c 0, 255, .inl (fun j => zI ((nm j : Nat) : Int)))), (df, .inr (3, [.ref dfw])), (dfw, .inl (c 2, 4 * 255, .inr (.inl fw))), (di, .inr (3, [.ref diw])), (diw, .inl (c 2, 4 * 40, .inr (.inl iw))), (dl, .inr (3, [.ref dlw])), (dlw, .inl (c 2, 4 * 40, .inr (.inl lw))), (dm, .inl (c 1, 40, .inl (fun j => zB (mb j)))), (mo, .inr (1, [.ref me, .ref ms, .int (zB (!twA en2 (tmE fw iw lw (mb 0) nc) nc (nc + 1)))])), (me, .inl (c 0, nc, .inl (fun j => zI ((en2 j : Nat) : Int)))), (ms, .inr (3, [.ref msw])), (msw, .inl (c 2, 4 * (nc + 1), .inr (.inl (tmE fw iw lw (mb 0) nc))))] H := hP
  have hD : va_D A [(x, .inr (4, [.ref d, .ref xm, .ref rd, .int (zI ((mk + 1 : Nat) : Int))])), (xm, .inl (c 3, 50, .inr (.inr (.inr (.inr (va_up mg mk (some mo))))))), (d, .inr (0, [.ref dn, .ref df, .ref di, .ref dl, .ref dm, .int (zI ((nc : Nat) : Int)), .int (zI ((1 : Nat) : Int))])), (dn, .inl (c 0, 255, .inl (fun j => zI ((nm j : Nat) : Int)))), (df, .inr (3, [.ref dfw])), (dfw, .inl (c 2, 4 * 255, .inr (.inl fw))), (di, .inr (3, [.ref diw])), (diw, .inl (c 2, 4 * 40, .inr (.inl iw))), (dl, .inr (3, [.ref dlw])), (dlw, .inl (c 2, 4 * 40, .inr (.inl lw))), (dm, .inl (c 1, 40, .inl (fun j => zB (mb j)))), (mo, .inr (1, [.ref me, .ref ms, .int (zB (!twA en2 (tmE fw iw lw (mb 0) nc) nc (nc + 1)))])), (me, .inl (c 0, nc, .inl (fun j => zI ((en2 j : Nat) : Int)))), (ms, .inr (3, [.ref msw])), (msw, .inl (c 2, 4 * (nc + 1), .inr (.inl (tmE fw iw lw (mb 0) nc))))] := hD
  refine lv_aload_n hx hb d_To_make_51 rfl (lv_at hl 1 rfl) ?_
  refine va_get (D := D) (ci := 4) (v := .ref d) (C := R_To) (T := T_To) (N := 4) hx hb hts (fun w h => List.mem_cons_of_mem _ (inA_To w h)) hown hK hP 0 rfl rfl 0 (by decide) (hw k_To_f12) (fun _ h9 => h9) rfl d_To_make_52 ?_
  have hPc : va_P D vwCl [(d, .inr (0, [.ref dn, .ref df, .ref di, .ref dl, .ref dm, .int (zI ((nc : Nat) : Int)), .int (zI ((1 : Nat) : Int))]))] H := hP.sub (ws' := [(d, .inr (0, [.ref dn, .ref df, .ref di, .ref dl, .ref dm, .int (zI ((nc : Nat) : Int)), .int (zI ((1 : Nat) : Int))]))]) [2] rfl
  have hDc : va_D A [(d, .inr (0, [.ref dn, .ref df, .ref di, .ref dl, .ref dm, .int (zI ((nc : Nat) : Int)), .int (zI ((1 : Nat) : Int))]))] := hD.sub (ws' := [(d, .inr (0, [.ref dn, .ref df, .ref di, .ref dl, .ref dm, .int (zI ((nc : Nat) : Int)), .int (zI ((1 : Nat) : Int))]))]) [2] (by decide) rfl
  have hDt : va_D (fun _ => True) [(d, .inr (0, [.ref dn, .ref df, .ref di, .ref dl, .ref dm, .int (zI ((nc : Nat) : Int)), .int (zI ((1 : Nat) : Int))]))] := hDc.weaken (fun _ _ _ _ => trivial)
  refine z_callv (S := Unit) (w1 := fun u => [(d, .inr (0, [.ref dn, .ref df, .ref di, .ref dl, .ref dm, .int (zI 0), .int (zI 0)]))]) (post := fun u => True) (wc := [(d, .inr (0, [.ref dn, .ref df, .ref di, .ref dl, .ref dm, .int (zI ((nc : Nat) : Int)), .int (zI ((1 : Nat) : Int))]))]) [2] rfl (fun _ => rfl) hP hD hS (va_runV (rm := rm_dropAll) (As := []) (rest := []) ⟨hx, hb, hml, hown, hts⟩ (c_dropAll l D c d dn df dfw di diw dl dlw dm nm fw iw lw mb nc 1) (cwV 0 hts (gWV k_To_m53 k_i_Dr_dropAll k_v_Dr_dropAll k_n_Dr k_c_Dr_dropAll) rfl rfl rfl (by decide +kernel) ⟨Nat.le_of_ble_eq_true rfl, Nat.le_of_ble_eq_true rfl⟩) ⟨zblindW, va_recv hK hPc (ci := 0) (q0 := 0) rfl rfl, fun U hU hW => ⟨rfl, ⟨by rw [hU]; exact hPc, hDt⟩, hKN.moved hW⟩⟩ rfl rfl hl.1 rfl (lv_room (Nat.le_of_ble_eq_true rfl)) d_To_make_55 ⟨Nat.le_of_ble_eq_true rfl, Nat.le_of_ble_eq_true rfl⟩) (fun u H locs hp_3 hP hD hS => ?_)
  have hP : va_P D vwCl [(x, .inr (4, [.ref d, .ref xm, .ref rd, .int (zI ((mk + 1 : Nat) : Int))])), (xm, .inl (c 3, 50, .inr (.inr (.inr (.inr (va_up mg mk (some mo))))))), (d, .inr (0, [.ref dn, .ref df, .ref di, .ref dl, .ref dm, .int (zI 0), .int (zI 0)])), (dn, .inl (c 0, 255, .inl (fun j => zI ((nm j : Nat) : Int)))), (df, .inr (3, [.ref dfw])), (dfw, .inl (c 2, 4 * 255, .inr (.inl fw))), (di, .inr (3, [.ref diw])), (diw, .inl (c 2, 4 * 40, .inr (.inl iw))), (dl, .inr (3, [.ref dlw])), (dlw, .inl (c 2, 4 * 40, .inr (.inl lw))), (dm, .inl (c 1, 40, .inl (fun j => zB (mb j)))), (mo, .inr (1, [.ref me, .ref ms, .int (zB (!twA en2 (tmE fw iw lw (mb 0) nc) nc (nc + 1)))])), (me, .inl (c 0, nc, .inl (fun j => zI ((en2 j : Nat) : Int)))), (ms, .inr (3, [.ref msw])), (msw, .inl (c 2, 4 * (nc + 1), .inr (.inl (tmE fw iw lw (mb 0) nc))))] H := hP
  have hD : va_D A [(x, .inr (4, [.ref d, .ref xm, .ref rd, .int (zI ((mk + 1 : Nat) : Int))])), (xm, .inl (c 3, 50, .inr (.inr (.inr (.inr (va_up mg mk (some mo))))))), (d, .inr (0, [.ref dn, .ref df, .ref di, .ref dl, .ref dm, .int (zI 0), .int (zI 0)])), (dn, .inl (c 0, 255, .inl (fun j => zI ((nm j : Nat) : Int)))), (df, .inr (3, [.ref dfw])), (dfw, .inl (c 2, 4 * 255, .inr (.inl fw))), (di, .inr (3, [.ref diw])), (diw, .inl (c 2, 4 * 40, .inr (.inl iw))), (dl, .inr (3, [.ref dlw])), (dlw, .inl (c 2, 4 * 40, .inr (.inl lw))), (dm, .inl (c 1, 40, .inl (fun j => zB (mb j)))), (mo, .inr (1, [.ref me, .ref ms, .int (zB (!twA en2 (tmE fw iw lw (mb 0) nc) nc (nc + 1)))])), (me, .inl (c 0, nc, .inl (fun j => zI ((en2 j : Nat) : Int)))), (ms, .inr (3, [.ref msw])), (msw, .inl (c 2, 4 * (nc + 1), .inr (.inl (tmE fw iw lw (mb 0) nc))))] := hD
  refine lv_iload_n hx hb d_To_make_58 rfl (lv_at hl 0 rfl) ?_
  subst hQ
  refine W.widen (k := 4) (n := 1283) (by omega) (by omega) ?_
  exact W.iret (v := (zI ((mk : Nat) : Int))) hx hb hr (fun t9 ht hW => ⟨⟨_, (mo, me, ms, msw, en2), rfl, ⟨rfl, hso⟩, by show va_P _ _ _ t9.heap; rw [ht]; exact hP.sub [0, 1, 2, 3, 4, 5, 6, 7, 8, 9, 10, 11, 12, 13, 14] rfl, by exact hD.sub [0, 1, 2, 3, 4, 5, 6, 7, 8, 9, 10, 11, 12, 13, 14] (by decide) rfl⟩, hS.F ht⟩) hS.2.2 d_To_make_59

def rm_modelAt_no : Room := { frames := 0, cells := 0, slots := 0, locals := 0 }
set_option maxHeartbeats 4000000 in
set_option maxRecDepth 100000 in
/-- modelAt, none such -/
theorem c_modelAt_no (l : Launch) (D : va_G) (c : Nat → ClassId) (x : Nat) (xm : Nat) (d : Nat) (rd : Nat) (mg : Nat → Option Nat) (mk : Nat) (y : Int) (hy : -2147483648 ≤ y ∧ y < 2147483648) (hm : mk ≤ 50) (hno : y < 0 ∨ (mk : Int) ≤ y) : Met l y_To_modelAt w_To_modelAt rm_modelAt_no (va_Pc [.ref x, .int (zI y)] (fun U => va_P D vwCl [(x, .inr (4, [.ref d, .ref xm, .ref rd, .int (zI ((mk : Nat) : Int))])), (xm, .inl (c 3, 50, .inr (.inr (.inr (.inr mg)))))] U.heap ∧ zK D c U)) (va_Sq (fun r => r = none)) 0 0 (fun _ => False) := by
  refine Met.ofW (cc := b_To_modelAt) (maxL := 2) (ret := (some (.object "RowModels$Model"))) (by decide) rfl ?_
  intro p e s m args below meth c0 s₁ B hml hv
  obtain ⟨rfl, hP, hKN⟩ := hv
  have hK := hKN.1
  have hN := hKN.2
  have hx := B.exec
  have hb := B.bytes
  have hr := B.returns
  have hts := atoms_spec (ws := w_To_modelAt) B.pre
  have hw : ∀ {w : Cond}, w ∈ ALLW → w.before _ s = true := fun h => hts _ (List.mem_cons_of_mem _ h)
  have hown : s.vm.findClass R_To = some m.cls := findClass_of_methodNamed B.named
  have hlocks := B.notSynchronized
  have hl := lv_entry ([.ref x, .int (zI y)]) (n := 2) (Nat.le_of_ble_eq_true rfl)
  rw [lg_entry_eq]
  generalize (lg_sl ([.ref x, .int (zI y)]) ++ List.replicate (2 - (lg_sl ([.ref x, .int (zI y)])).length) Slot.unset).toArray = ls at hl ⊢
  have hl : lv_has ls 2 [(0, .ref x), (1, .int (zI y))] := hl
  generalize hQ : MQ below _ _ _ _ _ _ = Q
  refine lv_iload_n hx hb d_To_modelAt_0 rfl (lv_at hl 1 rfl) ?_
  refine z_if_lt (tgt := 30) hx hb (by omega) d_To_modelAt_1 (by decide) (fun hc_1 => ?_) (fun hc_1 => ?_)
  · refine lv_null hx hb d_To_modelAt_30 ?_
    subst hQ
    exact W.aret (v := .null) hx hb hr (Or.inl ⟨_, rfl⟩) (Or.inl rfl) (fun t9 ht hW => ⟨_, rfl, rfl, ht⟩) (fun q hq => absurd hq List.not_mem_nil) d_To_modelAt_31
  · refine lv_iload_n hx hb d_To_modelAt_4 rfl (lv_at hl 1 rfl) ?_
    refine lv_aload_n hx hb d_To_modelAt_5 rfl (lv_at hl 0 rfl) ?_
    refine va_get (D := D) (ci := 4) (v := .int (zI ((mk : Nat) : Int))) (C := R_To) (T := T_To) (N := 4) hx hb hts (fun w h => List.mem_cons_of_mem _ (inA_To w h)) hown hK hP 0 rfl rfl 3 (by decide) (hw k_To_f29) (fun _ h9 => h9) rfl d_To_modelAt_6 ?_
    refine z_icmp_ge (tgt := 30) hx hb (by omega) d_To_modelAt_9 (by decide) (fun hc_9 => ?_) (fun hc_9 => absurd hc_9 (by omega))
    refine lv_null hx hb d_To_modelAt_30 ?_
    subst hQ
    exact W.aret (v := .null) hx hb hr (Or.inl ⟨_, rfl⟩) (Or.inl rfl) (fun t9 ht hW => ⟨_, rfl, rfl, ht⟩) (fun q hq => absurd hq List.not_mem_nil) d_To_modelAt_31

def rm_modelAt : Room := { frames := 0, cells := 0, slots := 0, locals := 0 }
set_option maxHeartbeats 4000000 in
set_option maxRecDepth 100000 in
/-- modelAt -/
theorem c_modelAt (l : Launch) (D : va_G) (c : Nat → ClassId) (x : Nat) (xm : Nat) (d : Nat) (rd : Nat) (mg : Nat → Option Nat) (mk : Nat) (k : Nat) (mo : Nat) (hm : mk ≤ 50) (hk : k < mk) (hmo : mg k = some mo) : Met l y_To_modelAt w_To_modelAt rm_modelAt (va_Pc [.ref x, .int (zI ((k : Nat) : Int))] (fun U => va_P D vwCl [(x, .inr (4, [.ref d, .ref xm, .ref rd, .int (zI ((mk : Nat) : Int))])), (xm, .inl (c 3, 50, .inr (.inr (.inr (.inr mg)))))] U.heap ∧ zK D c U)) (va_Sq (fun r => r = some mo)) 0 0 (fun _ => False) := by
  refine Met.ofW (cc := b_To_modelAt) (maxL := 2) (ret := (some (.object "RowModels$Model"))) (by decide) rfl ?_
  intro p e s m args below meth c0 s₁ B hml hv
  obtain ⟨rfl, hP, hKN⟩ := hv
  have hK := hKN.1
  have hN := hKN.2
  have hx := B.exec
  have hb := B.bytes
  have hr := B.returns
  have hts := atoms_spec (ws := w_To_modelAt) B.pre
  have hw : ∀ {w : Cond}, w ∈ ALLW → w.before _ s = true := fun h => hts _ (List.mem_cons_of_mem _ h)
  have hown : s.vm.findClass R_To = some m.cls := findClass_of_methodNamed B.named
  have hlocks := B.notSynchronized
  have hl := lv_entry ([.ref x, .int (zI ((k : Nat) : Int))]) (n := 2) (Nat.le_of_ble_eq_true rfl)
  rw [lg_entry_eq]
  generalize (lg_sl ([.ref x, .int (zI ((k : Nat) : Int))]) ++ List.replicate (2 - (lg_sl ([.ref x, .int (zI ((k : Nat) : Int))])).length) Slot.unset).toArray = ls at hl ⊢
  have hl : lv_has ls 2 [(0, .ref x), (1, .int (zI ((k : Nat) : Int)))] := hl
  generalize hQ : MQ below _ _ _ _ _ _ = Q
  refine lv_iload_n hx hb d_To_modelAt_0 rfl (lv_at hl 1 rfl) ?_
  refine z_if_lt (tgt := 30) hx hb (by omega) d_To_modelAt_1 (by decide) (fun hc_1 => absurd hc_1 (by omega)) (fun hc_1 => ?_)
  refine lv_iload_n hx hb d_To_modelAt_4 rfl (lv_at hl 1 rfl) ?_
  refine lv_aload_n hx hb d_To_modelAt_5 rfl (lv_at hl 0 rfl) ?_
  refine va_get (D := D) (ci := 4) (v := .int (zI ((mk : Nat) : Int))) (C := R_To) (T := T_To) (N := 4) hx hb hts (fun w h => List.mem_cons_of_mem _ (inA_To w h)) hown hK hP 0 rfl rfl 3 (by decide) (hw k_To_f29) (fun _ h9 => h9) rfl d_To_modelAt_6 ?_
  refine z_icmp_ge (tgt := 30) hx hb (by omega) d_To_modelAt_9 (by decide) (fun hc_9 => absurd hc_9 (by omega)) (fun hc_9 => ?_)
  refine lv_iload_n hx hb d_To_modelAt_12 rfl (lv_at hl 1 rfl) ?_
  refine lv_aload_n hx hb d_To_modelAt_13 rfl (lv_at hl 0 rfl) ?_
  refine va_get (D := D) (ci := 4) (v := .ref xm) (C := R_To) (T := T_To) (N := 4) hx hb hts (fun w h => List.mem_cons_of_mem _ (inA_To w h)) hown hK hP 0 rfl rfl 1 (by decide) (hw k_To_f18) (fun _ h9 => h9) rfl d_To_modelAt_14 ?_
  refine z_alen hx hb hK hP 1 3 rfl rfl d_To_modelAt_17 ?_
  refine z_top (v2 := .int (zI (50 : Int))) rfl ?_
  refine z_icmp_ge (tgt := 30) hx hb (by omega) d_To_modelAt_18 (by decide) (fun hc_18 => absurd hc_18 (by omega)) (fun hc_18 => ?_)
  refine lv_aload_n hx hb d_To_modelAt_21 rfl (lv_at hl 0 rfl) ?_
  refine va_get (D := D) (ci := 4) (v := .ref xm) (C := R_To) (T := T_To) (N := 4) hx hb hts (fun w h => List.mem_cons_of_mem _ (inA_To w h)) hown hK hP 0 rfl rfl 1 (by decide) (hw k_To_f18) (fun _ h9 => h9) rfl d_To_modelAt_22 ?_
  refine lv_iload_n hx hb d_To_modelAt_25 rfl (lv_at hl 1 rfl) ?_
  refine z_aald hx hb hK hP 1 3 rfl rfl (k) (by omega) (by omega) (by omega) d_To_modelAt_26 ?_
  refine z_top (v2 := .ref mo) (by rw [hmo]; rfl) ?_
  refine lv_goto (tgt := 31) hx hb d_To_modelAt_27 (by decide) ?_
  subst hQ
  exact W.aret (v := .ref mo) hx hb hr (Or.inl ⟨_, rfl⟩) (Or.inr ⟨_, rfl⟩) (fun t9 ht hW => ⟨_, rfl, rfl, ht⟩) (fun q hq => absurd hq List.not_mem_nil) d_To_modelAt_31

def rm_size_no : Room := { frames := 1, cells := 0, slots := 0, locals := 21 }
set_option maxHeartbeats 4000000 in
set_option maxRecDepth 100000 in
/-- size, none such -/
theorem c_size_no (l : Launch) (D : va_G) (c : Nat → ClassId) (x : Nat) (xm : Nat) (d : Nat) (rd : Nat) (mg : Nat → Option Nat) (mk : Nat) (y : Int) (hy : -2147483648 ≤ y ∧ y < 2147483648) (hm : mk ≤ 50) (hno : y < 0 ∨ (mk : Int) ≤ y) : Met l y_To_size w_To_size rm_size_no (va_Pc [.ref x, .int (zI y)] (fun U => va_P D vwCl [(x, .inr (4, [.ref d, .ref xm, .ref rd, .int (zI ((mk : Nat) : Int))])), (xm, .inl (c 3, 50, .inr (.inr (.inr (.inr mg)))))] U.heap ∧ zK D c U)) (vp_Si (fun r => r = (zI (-1)))) 0 0 (fun _ => False) := by
  refine Met.ofW (cc := b_To_size) (maxL := 3) (ret := (some .int)) (by decide) rfl ?_
  intro p e s m args below meth c0 s₁ B hml hv
  obtain ⟨rfl, hP, hKN⟩ := hv
  have hK := hKN.1
  have hN := hKN.2
  have hx := B.exec
  have hb := B.bytes
  have hr := B.returns
  have hts := atoms_spec (ws := w_To_size) B.pre
  have hw : ∀ {w : Cond}, w ∈ ALLW → w.before _ s = true := fun h => hts _ (List.mem_cons_of_mem _ h)
  have hown : s.vm.findClass R_To = some m.cls := findClass_of_methodNamed B.named
  have hlocks := B.notSynchronized
  have hl := lv_entry ([.ref x, .int (zI y)]) (n := 3) (Nat.le_of_ble_eq_true rfl)
  rw [lg_entry_eq]
  generalize (lg_sl ([.ref x, .int (zI y)]) ++ List.replicate (3 - (lg_sl ([.ref x, .int (zI y)])).length) Slot.unset).toArray = ls at hl ⊢
  have hl : lv_has ls 3 [(0, .ref x), (1, .int (zI y))] := hl
  generalize hQ : MQ below _ _ _ _ _ _ = Q
  refine lv_aload_n hx hb d_To_size_0 rfl (lv_at hl 0 rfl) ?_
  refine lv_iload_n hx hb d_To_size_1 rfl (lv_at hl 1 rfl) ?_
  have hPc : va_P D vwCl [(x, .inr (4, [.ref d, .ref xm, .ref rd, .int (zI ((mk : Nat) : Int))])), (xm, .inl (c 3, 50, .inr (.inr (.inr (.inr mg)))))] s.heap := hP.sub (ws' := [(x, .inr (4, [.ref d, .ref xm, .ref rd, .int (zI ((mk : Nat) : Int))])), (xm, .inl (c 3, 50, .inr (.inr (.inr (.inr mg)))))]) [0, 1] rfl
  refine va_csq (va_runV (rm := rm_modelAt_no) (As := [.int (zI y)]) (rest := []) ⟨hx, hb, hml, hown, hts⟩ (c_modelAt_no l D c x xm d rd mg mk y (by omega) (by omega) hno) (cwV 1 hts (gWV k_To_m60 k_i_To_modelAt k_v_To_modelAt k_n_To k_c_To_modelAt) rfl rfl rfl (by decide +kernel) ⟨Nat.le_of_ble_eq_true rfl, Nat.le_of_ble_eq_true rfl⟩) ⟨zblind, va_recv hK hPc (ci := 4) (q0 := 0) rfl rfl, fun U hU hW => ⟨rfl, by rw [hU]; exact hPc, hKN.moved hW⟩⟩ rfl rfl hl.1 rfl (lv_room (Nat.le_of_ble_eq_true rfl)) d_To_size_2 ⟨Nat.zero_le _, Nat.zero_le _⟩).run (fun r hr_1 => ?_)
  subst hr_1
  refine z_top (v2 := .null) (rfl) ?_
  refine lv_astore_nN (lv' := [(2, .null), (0, .ref x), (1, .int (zI y))]) hx hb d_To_size_5 rfl hl (by decide) rfl (fun ls hl => ?_)
  refine lv_aload_nN hx hb d_To_size_6 rfl (lv_at hl 0 rfl) ?_
  refine lv_ifnonnullN hx hb d_To_size_7 ?_
  refine lv_iconst (v := zI (-1)) hx hb d_To_size_10 (by decide) ?_
  refine lv_goto (tgt := 19) hx hb d_To_size_11 (by decide) ?_
  subst hQ
  exact W.iret (v := (zI (-1))) hx hb hr (fun t9 ht hW => ⟨_, rfl, rfl, ht⟩) (fun q hq => absurd hq List.not_mem_nil) d_To_size_19

def rm_isDeterministic_no : Room := { frames := 1, cells := 0, slots := 0, locals := 21 }
set_option maxHeartbeats 4000000 in
set_option maxRecDepth 100000 in
/-- isDeterministic, none such -/
theorem c_isDeterministic_no (l : Launch) (D : va_G) (c : Nat → ClassId) (x : Nat) (xm : Nat) (d : Nat) (rd : Nat) (mg : Nat → Option Nat) (mk : Nat) (y : Int) (hy : -2147483648 ≤ y ∧ y < 2147483648) (hm : mk ≤ 50) (hno : y < 0 ∨ (mk : Int) ≤ y) : Met l y_To_isDeterministic w_To_isDeterministic rm_isDeterministic_no (va_Pc [.ref x, .int (zI y)] (fun U => va_P D vwCl [(x, .inr (4, [.ref d, .ref xm, .ref rd, .int (zI ((mk : Nat) : Int))])), (xm, .inl (c 3, 50, .inr (.inr (.inr (.inr mg)))))] U.heap ∧ zK D c U)) (vp_Si (fun r => r = (zB false))) 0 0 (fun _ => False) := by
  refine Met.ofW (cc := b_To_isDeterministic) (maxL := 3) (ret := (some .boolean)) (by decide) rfl ?_
  intro p e s m args below meth c0 s₁ B hml hv
  obtain ⟨rfl, hP, hKN⟩ := hv
  have hK := hKN.1
  have hN := hKN.2
  have hx := B.exec
  have hb := B.bytes
  have hr := B.returns
  have hts := atoms_spec (ws := w_To_isDeterministic) B.pre
  have hw : ∀ {w : Cond}, w ∈ ALLW → w.before _ s = true := fun h => hts _ (List.mem_cons_of_mem _ h)
  have hown : s.vm.findClass R_To = some m.cls := findClass_of_methodNamed B.named
  have hlocks := B.notSynchronized
  have hl := lv_entry ([.ref x, .int (zI y)]) (n := 3) (Nat.le_of_ble_eq_true rfl)
  rw [lg_entry_eq]
  generalize (lg_sl ([.ref x, .int (zI y)]) ++ List.replicate (3 - (lg_sl ([.ref x, .int (zI y)])).length) Slot.unset).toArray = ls at hl ⊢
  have hl : lv_has ls 3 [(0, .ref x), (1, .int (zI y))] := hl
  generalize hQ : MQ below _ _ _ _ _ _ = Q
  refine lv_aload_n hx hb d_To_isDeterministic_0 rfl (lv_at hl 0 rfl) ?_
  refine lv_iload_n hx hb d_To_isDeterministic_1 rfl (lv_at hl 1 rfl) ?_
  have hPc : va_P D vwCl [(x, .inr (4, [.ref d, .ref xm, .ref rd, .int (zI ((mk : Nat) : Int))])), (xm, .inl (c 3, 50, .inr (.inr (.inr (.inr mg)))))] s.heap := hP.sub (ws' := [(x, .inr (4, [.ref d, .ref xm, .ref rd, .int (zI ((mk : Nat) : Int))])), (xm, .inl (c 3, 50, .inr (.inr (.inr (.inr mg)))))]) [0, 1] rfl
  refine va_csq (va_runV (rm := rm_modelAt_no) (As := [.int (zI y)]) (rest := []) ⟨hx, hb, hml, hown, hts⟩ (c_modelAt_no l D c x xm d rd mg mk y (by omega) (by omega) hno) (cwV 1 hts (gWV k_To_m60 k_i_To_modelAt k_v_To_modelAt k_n_To k_c_To_modelAt) rfl rfl rfl (by decide +kernel) ⟨Nat.le_of_ble_eq_true rfl, Nat.le_of_ble_eq_true rfl⟩) ⟨zblind, va_recv hK hPc (ci := 4) (q0 := 0) rfl rfl, fun U hU hW => ⟨rfl, by rw [hU]; exact hPc, hKN.moved hW⟩⟩ rfl rfl hl.1 rfl (lv_room (Nat.le_of_ble_eq_true rfl)) d_To_isDeterministic_2 ⟨Nat.zero_le _, Nat.zero_le _⟩).run (fun r hr_1 => ?_)
  subst hr_1
  refine z_top (v2 := .null) (rfl) ?_
  refine lv_astore_nN (lv' := [(2, .null), (0, .ref x), (1, .int (zI y))]) hx hb d_To_isDeterministic_5 rfl hl (by decide) rfl (fun ls hl => ?_)
  refine lv_aload_nN hx hb d_To_isDeterministic_6 rfl (lv_at hl 0 rfl) ?_
  refine lv_ifnullN (tgt := 21) hx hb d_To_isDeterministic_7 (by decide) ?_
  refine lv_iconst (v := zI 0) hx hb d_To_isDeterministic_21 (by decide) ?_
  subst hQ
  exact W.zret (ty := .boolean) (v := (zI 0)) hx hb hr (by decide) (fun t9 ht hW => ⟨_, rfl, (by decide), ht⟩) (fun q hq => absurd hq List.not_mem_nil) d_To_isDeterministic_22

def rm_begin_no : Room := { frames := 1, cells := 0, slots := 0, locals := 21 }
set_option maxHeartbeats 4000000 in
set_option maxRecDepth 100000 in
/-- begin, none such -/
theorem c_begin_no (l : Launch) (D : va_G) (c : Nat → ClassId) (x : Nat) (xm : Nat) (d : Nat) (rd : Nat) (mg : Nat → Option Nat) (mk : Nat) (y : Int) (hy : -2147483648 ≤ y ∧ y < 2147483648) (hm : mk ≤ 50) (hno : y < 0 ∨ (mk : Int) ≤ y) : Met l y_To_begin w_To_begin rm_begin_no (va_Pc [.ref x, .int (zI y)] (fun U => va_P D vwCl [(x, .inr (4, [.ref d, .ref xm, .ref rd, .int (zI ((mk : Nat) : Int))])), (xm, .inl (c 3, 50, .inr (.inr (.inr (.inr mg)))))] U.heap ∧ zK D c U)) (vp_Si (fun r => r = (zB false))) 0 0 (fun _ => False) := by
  refine Met.ofW (cc := b_To_begin) (maxL := 3) (ret := (some .boolean)) (by decide) rfl ?_
  intro p e s m args below meth c0 s₁ B hml hv
  obtain ⟨rfl, hP, hKN⟩ := hv
  have hK := hKN.1
  have hN := hKN.2
  have hx := B.exec
  have hb := B.bytes
  have hr := B.returns
  have hts := atoms_spec (ws := w_To_begin) B.pre
  have hw : ∀ {w : Cond}, w ∈ ALLW → w.before _ s = true := fun h => hts _ (List.mem_cons_of_mem _ h)
  have hown : s.vm.findClass R_To = some m.cls := findClass_of_methodNamed B.named
  have hlocks := B.notSynchronized
  have hl := lv_entry ([.ref x, .int (zI y)]) (n := 3) (Nat.le_of_ble_eq_true rfl)
  rw [lg_entry_eq]
  generalize (lg_sl ([.ref x, .int (zI y)]) ++ List.replicate (3 - (lg_sl ([.ref x, .int (zI y)])).length) Slot.unset).toArray = ls at hl ⊢
  have hl : lv_has ls 3 [(0, .ref x), (1, .int (zI y))] := hl
  generalize hQ : MQ below _ _ _ _ _ _ = Q
  refine lv_aload_n hx hb d_To_begin_0 rfl (lv_at hl 0 rfl) ?_
  refine lv_iload_n hx hb d_To_begin_1 rfl (lv_at hl 1 rfl) ?_
  have hPc : va_P D vwCl [(x, .inr (4, [.ref d, .ref xm, .ref rd, .int (zI ((mk : Nat) : Int))])), (xm, .inl (c 3, 50, .inr (.inr (.inr (.inr mg)))))] s.heap := hP.sub (ws' := [(x, .inr (4, [.ref d, .ref xm, .ref rd, .int (zI ((mk : Nat) : Int))])), (xm, .inl (c 3, 50, .inr (.inr (.inr (.inr mg)))))]) [0, 1] rfl
  refine va_csq (va_runV (rm := rm_modelAt_no) (As := [.int (zI y)]) (rest := []) ⟨hx, hb, hml, hown, hts⟩ (c_modelAt_no l D c x xm d rd mg mk y (by omega) (by omega) hno) (cwV 1 hts (gWV k_To_m60 k_i_To_modelAt k_v_To_modelAt k_n_To k_c_To_modelAt) rfl rfl rfl (by decide +kernel) ⟨Nat.le_of_ble_eq_true rfl, Nat.le_of_ble_eq_true rfl⟩) ⟨zblind, va_recv hK hPc (ci := 4) (q0 := 0) rfl rfl, fun U hU hW => ⟨rfl, by rw [hU]; exact hPc, hKN.moved hW⟩⟩ rfl rfl hl.1 rfl (lv_room (Nat.le_of_ble_eq_true rfl)) d_To_begin_2 ⟨Nat.zero_le _, Nat.zero_le _⟩).run (fun r hr_1 => ?_)
  subst hr_1
  refine z_top (v2 := .null) (rfl) ?_
  refine lv_astore_nN (lv' := [(2, .null), (0, .ref x), (1, .int (zI y))]) hx hb d_To_begin_5 rfl hl (by decide) rfl (fun ls hl => ?_)
  refine lv_aload_nN hx hb d_To_begin_6 rfl (lv_at hl 0 rfl) ?_
  refine lv_ifnonnullN hx hb d_To_begin_7 ?_
  refine lv_iconst (v := zI 0) hx hb d_To_begin_10 (by decide) ?_
  subst hQ
  exact W.zret (ty := .boolean) (v := (zI 0)) hx hb hr (by decide) (fun t9 ht hW => ⟨_, rfl, (by decide), ht⟩) (fun q hq => absurd hq List.not_mem_nil) d_To_begin_11

def rm_size : Room := { frames := 1, cells := 0, slots := 0, locals := 21 }
set_option maxHeartbeats 4000000 in
set_option maxRecDepth 100000 in
/-- size -/
theorem c_size (l : Launch) (D : va_G) (c : Nat → ClassId) (x : Nat) (xm : Nat) (d : Nat) (rd : Nat) (mg : Nat → Option Nat) (mk : Nat) (k : Nat) (mo : Nat) (me : Nat) (ms : Nat) (msw : Nat) (en : Nat → Nat) (ne : Nat) (mf : Nat → Int64) (dt : Bool) (hm : mk ≤ 50) (hk : k < mk) (hmo : mg k = some mo) : Met l y_To_size w_To_size rm_size (va_Pc [.ref x, .int (zI ((k : Nat) : Int))] (fun U => va_P D vwCl [(x, .inr (4, [.ref d, .ref xm, .ref rd, .int (zI ((mk : Nat) : Int))])), (xm, .inl (c 3, 50, .inr (.inr (.inr (.inr mg))))), (mo, .inr (1, [.ref me, .ref ms, .int (zB dt)])), (me, .inl (c 0, ne, .inl (fun j => zI ((en j : Nat) : Int))))] U.heap ∧ zK D c U)) (vp_Si (fun r => r = (zI ((ne : Nat) : Int)))) 0 0 (fun _ => False) := by
  refine Met.ofW (cc := b_To_size) (maxL := 3) (ret := (some .int)) (by decide) rfl ?_
  intro p e s m args below meth c0 s₁ B hml hv
  obtain ⟨rfl, hP, hKN⟩ := hv
  have hK := hKN.1
  have hN := hKN.2
  have hx := B.exec
  have hb := B.bytes
  have hr := B.returns
  have hts := atoms_spec (ws := w_To_size) B.pre
  have hw : ∀ {w : Cond}, w ∈ ALLW → w.before _ s = true := fun h => hts _ (List.mem_cons_of_mem _ h)
  have hown : s.vm.findClass R_To = some m.cls := findClass_of_methodNamed B.named
  have hlocks := B.notSynchronized
  have hl := lv_entry ([.ref x, .int (zI ((k : Nat) : Int))]) (n := 3) (Nat.le_of_ble_eq_true rfl)
  rw [lg_entry_eq]
  generalize (lg_sl ([.ref x, .int (zI ((k : Nat) : Int))]) ++ List.replicate (3 - (lg_sl ([.ref x, .int (zI ((k : Nat) : Int))])).length) Slot.unset).toArray = ls at hl ⊢
  have hl : lv_has ls 3 [(0, .ref x), (1, .int (zI ((k : Nat) : Int)))] := hl
  generalize hQ : MQ below _ _ _ _ _ _ = Q
  refine lv_aload_n hx hb d_To_size_0 rfl (lv_at hl 0 rfl) ?_
  refine lv_iload_n hx hb d_To_size_1 rfl (lv_at hl 1 rfl) ?_
  have hPc : va_P D vwCl [(x, .inr (4, [.ref d, .ref xm, .ref rd, .int (zI ((mk : Nat) : Int))])), (xm, .inl (c 3, 50, .inr (.inr (.inr (.inr mg)))))] s.heap := hP.sub (ws' := [(x, .inr (4, [.ref d, .ref xm, .ref rd, .int (zI ((mk : Nat) : Int))])), (xm, .inl (c 3, 50, .inr (.inr (.inr (.inr mg)))))]) [0, 1] rfl
  refine va_csq (va_runV (rm := rm_modelAt) (As := [.int (zI ((k : Nat) : Int))]) (rest := []) ⟨hx, hb, hml, hown, hts⟩ (c_modelAt l D c x xm d rd mg mk k mo (by omega) (by omega) hmo) (cwV 1 hts (gWV k_To_m60 k_i_To_modelAt k_v_To_modelAt k_n_To k_c_To_modelAt) rfl rfl rfl (by decide +kernel) ⟨Nat.le_of_ble_eq_true rfl, Nat.le_of_ble_eq_true rfl⟩) ⟨zblind, va_recv hK hPc (ci := 4) (q0 := 0) rfl rfl, fun U hU hW => ⟨rfl, by rw [hU]; exact hPc, hKN.moved hW⟩⟩ rfl rfl hl.1 rfl (lv_room (Nat.le_of_ble_eq_true rfl)) d_To_size_2 ⟨Nat.zero_le _, Nat.zero_le _⟩).run (fun r hr_1 => ?_)
  subst hr_1
  refine z_top (v2 := .ref mo) (rfl) ?_
  refine lv_astore_n (lv' := [(2, .ref mo), (0, .ref x), (1, .int (zI ((k : Nat) : Int)))]) hx hb d_To_size_5 rfl hl (by decide) rfl (fun ls hl => ?_)
  refine lv_aload_n hx hb d_To_size_6 rfl (lv_at hl 0 rfl) ?_
  refine lv_ifnonnull (tgt := 14) hx hb d_To_size_7 (by decide) ?_
  refine lv_aload_n hx hb d_To_size_14 rfl (lv_at hl 0 rfl) ?_
  refine va_getN (D := D) (ci := 1) (v := .ref me) (C := R_Mo) (T := T_Mo) (N := 3) hx hb hts (fun w h => List.mem_cons_of_mem _ (inA_Mo w h)) hown hK hP 2 rfl rfl 0 (by decide) (va_Nw.use rfl hN.2.2.2.2.1) (fun _ h9 => h9) rfl d_To_size_15 ?_
  refine z_alen hx hb hK hP 3 0 rfl rfl d_To_size_18 ?_
  refine z_top (v2 := .int (zI ((ne : Nat) : Int))) rfl ?_
  subst hQ
  exact W.iret (v := (zI ((ne : Nat) : Int))) hx hb hr (fun t9 ht hW => ⟨_, rfl, rfl, ht⟩) (fun q hq => absurd hq List.not_mem_nil) d_To_size_19

def rm_isDeterministic : Room := { frames := 1, cells := 0, slots := 0, locals := 21 }
set_option maxHeartbeats 4000000 in
set_option maxRecDepth 100000 in
/-- isDeterministic -/
theorem c_isDeterministic (l : Launch) (D : va_G) (c : Nat → ClassId) (x : Nat) (xm : Nat) (d : Nat) (rd : Nat) (mg : Nat → Option Nat) (mk : Nat) (k : Nat) (mo : Nat) (me : Nat) (ms : Nat) (msw : Nat) (en : Nat → Nat) (ne : Nat) (mf : Nat → Int64) (dt : Bool) (hm : mk ≤ 50) (hk : k < mk) (hmo : mg k = some mo) : Met l y_To_isDeterministic w_To_isDeterministic rm_isDeterministic (va_Pc [.ref x, .int (zI ((k : Nat) : Int))] (fun U => va_P D vwCl [(x, .inr (4, [.ref d, .ref xm, .ref rd, .int (zI ((mk : Nat) : Int))])), (xm, .inl (c 3, 50, .inr (.inr (.inr (.inr mg))))), (mo, .inr (1, [.ref me, .ref ms, .int (zB dt)]))] U.heap ∧ zK D c U)) (vp_Si (fun r => r = (zB dt))) 0 0 (fun _ => False) := by
  refine Met.ofW (cc := b_To_isDeterministic) (maxL := 3) (ret := (some .boolean)) (by decide) rfl ?_
  intro p e s m args below meth c0 s₁ B hml hv
  obtain ⟨rfl, hP, hKN⟩ := hv
  have hK := hKN.1
  have hN := hKN.2
  have hx := B.exec
  have hb := B.bytes
  have hr := B.returns
  have hts := atoms_spec (ws := w_To_isDeterministic) B.pre
  have hw : ∀ {w : Cond}, w ∈ ALLW → w.before _ s = true := fun h => hts _ (List.mem_cons_of_mem _ h)
  have hown : s.vm.findClass R_To = some m.cls := findClass_of_methodNamed B.named
  have hlocks := B.notSynchronized
  have hl := lv_entry ([.ref x, .int (zI ((k : Nat) : Int))]) (n := 3) (Nat.le_of_ble_eq_true rfl)
  rw [lg_entry_eq]
  generalize (lg_sl ([.ref x, .int (zI ((k : Nat) : Int))]) ++ List.replicate (3 - (lg_sl ([.ref x, .int (zI ((k : Nat) : Int))])).length) Slot.unset).toArray = ls at hl ⊢
  have hl : lv_has ls 3 [(0, .ref x), (1, .int (zI ((k : Nat) : Int)))] := hl
  generalize hQ : MQ below _ _ _ _ _ _ = Q
  refine lv_aload_n hx hb d_To_isDeterministic_0 rfl (lv_at hl 0 rfl) ?_
  refine lv_iload_n hx hb d_To_isDeterministic_1 rfl (lv_at hl 1 rfl) ?_
  have hPc : va_P D vwCl [(x, .inr (4, [.ref d, .ref xm, .ref rd, .int (zI ((mk : Nat) : Int))])), (xm, .inl (c 3, 50, .inr (.inr (.inr (.inr mg)))))] s.heap := hP.sub (ws' := [(x, .inr (4, [.ref d, .ref xm, .ref rd, .int (zI ((mk : Nat) : Int))])), (xm, .inl (c 3, 50, .inr (.inr (.inr (.inr mg)))))]) [0, 1] rfl
  refine va_csq (va_runV (rm := rm_modelAt) (As := [.int (zI ((k : Nat) : Int))]) (rest := []) ⟨hx, hb, hml, hown, hts⟩ (c_modelAt l D c x xm d rd mg mk k mo (by omega) (by omega) hmo) (cwV 1 hts (gWV k_To_m60 k_i_To_modelAt k_v_To_modelAt k_n_To k_c_To_modelAt) rfl rfl rfl (by decide +kernel) ⟨Nat.le_of_ble_eq_true rfl, Nat.le_of_ble_eq_true rfl⟩) ⟨zblind, va_recv hK hPc (ci := 4) (q0 := 0) rfl rfl, fun U hU hW => ⟨rfl, by rw [hU]; exact hPc, hKN.moved hW⟩⟩ rfl rfl hl.1 rfl (lv_room (Nat.le_of_ble_eq_true rfl)) d_To_isDeterministic_2 ⟨Nat.zero_le _, Nat.zero_le _⟩).run (fun r hr_1 => ?_)
  subst hr_1
  refine z_top (v2 := .ref mo) (rfl) ?_
  refine lv_astore_n (lv' := [(2, .ref mo), (0, .ref x), (1, .int (zI ((k : Nat) : Int)))]) hx hb d_To_isDeterministic_5 rfl hl (by decide) rfl (fun ls hl => ?_)
  refine lv_aload_n hx hb d_To_isDeterministic_6 rfl (lv_at hl 0 rfl) ?_
  refine lv_ifnull hx hb d_To_isDeterministic_7 ?_
  refine lv_aload_n hx hb d_To_isDeterministic_10 rfl (lv_at hl 0 rfl) ?_
  refine va_getN (D := D) (ci := 1) (v := .int (zB dt)) (C := R_Mo) (T := T_Mo) (N := 3) hx hb hts (fun w h => List.mem_cons_of_mem _ (inA_Mo w h)) hown hK hP 2 rfl rfl 2 (by decide) (va_Nw.use rfl hN.2.2.2.2.2.1) (fun _ h9 => h9) rfl d_To_isDeterministic_11 ?_
  refine z_ifeq_B (tgt := 21) hx hb d_To_isDeterministic_14 (by decide) (fun hc_14 => ?_) (fun hc_14 => ?_)
  · refine lv_iconst (v := zI 0) hx hb d_To_isDeterministic_21 (by decide) ?_
    subst hQ
    exact W.zret (ty := .boolean) (v := (zI 0)) hx hb hr (by decide) (fun t9 ht hW => ⟨_, rfl, (by rw [hc_14]; decide), ht⟩) (fun q hq => absurd hq List.not_mem_nil) d_To_isDeterministic_22
  · refine lv_iconst (v := zI 1) hx hb d_To_isDeterministic_17 (by decide) ?_
    refine lv_goto (tgt := 22) hx hb d_To_isDeterministic_18 (by decide) ?_
    subst hQ
    exact W.zret (ty := .boolean) (v := (zI 1)) hx hb hr (by decide) (fun t9 ht hW => ⟨_, rfl, (by rw [hc_14]; decide), ht⟩) (fun q hq => absurd hq List.not_mem_nil) d_To_isDeterministic_22

def rm_begin : Room := { frames := 4, cells := 0, slots := 0, locals := 88 }
set_option maxHeartbeats 4000000 in
set_option maxRecDepth 100000 in
/-- begin -/
theorem c_begin (l : Launch) (D : va_G) (c : Nat → ClassId) (x : Nat) (xm : Nat) (d : Nat) (rd : Nat) (mg : Nat → Option Nat) (mk : Nat) (k : Nat) (mo : Nat) (me : Nat) (ms : Nat) (msw : Nat) (en : Nat → Nat) (ne : Nat) (mf : Nat → Int64) (dt : Bool) (rn : Nat) (rc : Nat) (rcw : Nat) (rm_ : Option Nat) (nr : Nat → Nat) (rv : Nat → Int64) (ct : Nat) (hm : mk ≤ 50) (hk : k < mk) (hmo : mg k = some mo) (hne : ne ≤ 255) (hen : ∀ j, j < ne → en j < 300000) : Met l y_To_begin w_To_begin rm_begin (va_Pc [.ref x, .int (zI ((k : Nat) : Int))] (fun U => (va_P D vwCl [(x, .inr (4, [.ref d, .ref xm, .ref rd, .int (zI ((mk : Nat) : Int))])), (xm, .inl (c 3, 50, .inr (.inr (.inr (.inr mg))))), (rd, .inr (2, [.ref rn, .ref rc, va_rf rm_, .int (zI ((ct : Nat) : Int))])), (rc, .inr (3, [.ref rcw])), (rcw, .inl (c 2, 4 * 1001, .inr (.inl rv))), (mo, .inr (1, [.ref me, .ref ms, .int (zB dt)])), (me, .inl (c 0, ne, .inl (fun j => zI ((en j : Nat) : Int)))), (ms, .inr (3, [.ref msw])), (msw, .inl (c 2, 4 * (ne + 1), .inr (.inl mf)))] U.heap ∧ va_D (fun _ => True) [(x, .inr (4, [.ref d, .ref xm, .ref rd, .int (zI ((mk : Nat) : Int))])), (xm, .inl (c 3, 50, .inr (.inr (.inr (.inr mg))))), (rd, .inr (2, [.ref rn, .ref rc, va_rf rm_, .int (zI ((ct : Nat) : Int))])), (rc, .inr (3, [.ref rcw])), (rcw, .inl (c 2, 4 * 1001, .inr (.inl rv))), (mo, .inr (1, [.ref me, .ref ms, .int (zB dt)])), (me, .inl (c 0, ne, .inl (fun j => zI ((en j : Nat) : Int)))), (ms, .inr (3, [.ref msw])), (msw, .inl (c 2, 4 * (ne + 1), .inr (.inl mf)))]) ∧ zK D c U)) (va_Qi (fun (r : Int32) (u : Unit) => r = (zB true) ∧ True) (fun (u : Unit) t9 => va_P D vwCl [(x, .inr (4, [.ref d, .ref xm, .ref rd, .int (zI ((mk : Nat) : Int))])), (xm, .inl (c 3, 50, .inr (.inr (.inr (.inr mg))))), (rd, .inr (2, [.ref rn, .ref rc, .ref mo, .int (zI 0)])), (rc, .inr (3, [.ref rcw])), (rcw, .inl (c 2, 4 * 1001, .inr (.inl (zor (zclr rv 0) 0 mf ne)))), (mo, .inr (1, [.ref me, .ref ms, .int (zB dt)])), (me, .inl (c 0, ne, .inl (fun j => zI ((en j : Nat) : Int)))), (ms, .inr (3, [.ref msw])), (msw, .inl (c 2, 4 * (ne + 1), .inr (.inl mf)))] t9.heap) (zA [(x, .inr (4, [.ref d, .ref xm, .ref rd, .int (zI ((mk : Nat) : Int))])), (xm, .inl (c 3, 50, .inr (.inr (.inr (.inr mg))))), (rd, .inr (2, [.ref rn, .ref rc, va_rf rm_, .int (zI ((ct : Nat) : Int))])), (rc, .inr (3, [.ref rcw])), (rcw, .inl (c 2, 4 * 1001, .inr (.inl rv))), (mo, .inr (1, [.ref me, .ref ms, .int (zB dt)])), (me, .inl (c 0, ne, .inl (fun j => zI ((en j : Nat) : Int)))), (ms, .inr (3, [.ref msw])), (msw, .inl (c 2, 4 * (ne + 1), .inr (.inl mf)))])) 0 0 (zA [(x, .inr (4, [.ref d, .ref xm, .ref rd, .int (zI ((mk : Nat) : Int))])), (xm, .inl (c 3, 50, .inr (.inr (.inr (.inr mg))))), (rd, .inr (2, [.ref rn, .ref rc, va_rf rm_, .int (zI ((ct : Nat) : Int))])), (rc, .inr (3, [.ref rcw])), (rcw, .inl (c 2, 4 * 1001, .inr (.inl rv))), (mo, .inr (1, [.ref me, .ref ms, .int (zB dt)])), (me, .inl (c 0, ne, .inl (fun j => zI ((en j : Nat) : Int)))), (ms, .inr (3, [.ref msw])), (msw, .inl (c 2, 4 * (ne + 1), .inr (.inl mf)))]) := by
  refine Met.ofW (cc := b_To_begin) (maxL := 3) (ret := (some .boolean)) (by decide) rfl ?_
  intro p e s m args below meth c0 s₁ B hml hv
  obtain ⟨rfl, ⟨hP, hD0⟩, hKN⟩ := hv
  have hK := hKN.1
  have hN := hKN.2
  have hx := B.exec
  have hb := B.bytes
  have hr := B.returns
  have hts := atoms_spec (ws := w_To_begin) B.pre
  have hw : ∀ {w : Cond}, w ∈ ALLW → w.before _ s = true := fun h => hts _ (List.mem_cons_of_mem _ h)
  have hown : s.vm.findClass R_To = some m.cls := findClass_of_methodNamed B.named
  have hlocks := B.notSynchronized
  have hD : va_D (zA [(x, .inr (4, [.ref d, .ref xm, .ref rd, .int (zI ((mk : Nat) : Int))])), (xm, .inl (c 3, 50, .inr (.inr (.inr (.inr mg))))), (rd, .inr (2, [.ref rn, .ref rc, va_rf rm_, .int (zI ((ct : Nat) : Int))])), (rc, .inr (3, [.ref rcw])), (rcw, .inl (c 2, 4 * 1001, .inr (.inl rv))), (mo, .inr (1, [.ref me, .ref ms, .int (zB dt)])), (me, .inl (c 0, ne, .inl (fun j => zI ((en j : Nat) : Int)))), (ms, .inr (3, [.ref msw])), (msw, .inl (c 2, 4 * (ne + 1), .inr (.inl mf)))]) [(x, .inr (4, [.ref d, .ref xm, .ref rd, .int (zI ((mk : Nat) : Int))])), (xm, .inl (c 3, 50, .inr (.inr (.inr (.inr mg))))), (rd, .inr (2, [.ref rn, .ref rc, va_rf rm_, .int (zI ((ct : Nat) : Int))])), (rc, .inr (3, [.ref rcw])), (rcw, .inl (c 2, 4 * 1001, .inr (.inl rv))), (mo, .inr (1, [.ref me, .ref ms, .int (zB dt)])), (me, .inl (c 0, ne, .inl (fun j => zI ((en j : Nat) : Int)))), (ms, .inr (3, [.ref msw])), (msw, .inl (c 2, 4 * (ne + 1), .inr (.inl mf)))] := ⟨hD0.1, fun k q h => List.mem_map.mpr ⟨q, List.mem_of_getElem? h, rfl⟩⟩
  generalize hAe : zA [(x, .inr (4, [.ref d, .ref xm, .ref rd, .int (zI ((mk : Nat) : Int))])), (xm, .inl (c 3, 50, .inr (.inr (.inr (.inr mg))))), (rd, .inr (2, [.ref rn, .ref rc, va_rf rm_, .int (zI ((ct : Nat) : Int))])), (rc, .inr (3, [.ref rcw])), (rcw, .inl (c 2, 4 * 1001, .inr (.inl rv))), (mo, .inr (1, [.ref me, .ref ms, .int (zB dt)])), (me, .inl (c 0, ne, .inl (fun j => zI ((en j : Nat) : Int)))), (ms, .inr (3, [.ref msw])), (msw, .inl (c 2, 4 * (ne + 1), .inr (.inl mf)))] = A at hD ⊢
  have hS : va_S A s.heap s.heap [] := va_S.rf
  have hP : va_P D vwCl [(x, .inr (4, [.ref d, .ref xm, .ref rd, .int (zI ((mk : Nat) : Int))])), (xm, .inl (c 3, 50, .inr (.inr (.inr (.inr mg))))), (rd, .inr (2, [.ref rn, .ref rc, va_rf rm_, .int (zI ((ct : Nat) : Int))])), (rc, .inr (3, [.ref rcw])), (rcw, .inl (c 2, 4 * 1001, .inr (.inl rv))), (mo, .inr (1, [.ref me, .ref ms, .int (zB dt)])), (me, .inl (c 0, ne, .inl (fun j => zI ((en j : Nat) : Int)))), (ms, .inr (3, [.ref msw])), (msw, .inl (c 2, 4 * (ne + 1), .inr (.inl mf)))] s.heap := hP
  have hl := lv_entry ([.ref x, .int (zI ((k : Nat) : Int))]) (n := 3) (Nat.le_of_ble_eq_true rfl)
  rw [lg_entry_eq]
  generalize (lg_sl ([.ref x, .int (zI ((k : Nat) : Int))]) ++ List.replicate (3 - (lg_sl ([.ref x, .int (zI ((k : Nat) : Int))])).length) Slot.unset).toArray = ls at hl ⊢
  have hl : lv_has ls 3 [(0, .ref x), (1, .int (zI ((k : Nat) : Int)))] := hl
  generalize hQ : MQ below _ _ _ _ _ _ = Q
  refine lv_aload_n hx hb d_To_begin_0 rfl (lv_at hl 0 rfl) ?_
  refine lv_iload_n hx hb d_To_begin_1 rfl (lv_at hl 1 rfl) ?_
  have hPc : va_P D vwCl [(x, .inr (4, [.ref d, .ref xm, .ref rd, .int (zI ((mk : Nat) : Int))])), (xm, .inl (c 3, 50, .inr (.inr (.inr (.inr mg)))))] s.heap := hP.sub (ws' := [(x, .inr (4, [.ref d, .ref xm, .ref rd, .int (zI ((mk : Nat) : Int))])), (xm, .inl (c 3, 50, .inr (.inr (.inr (.inr mg)))))]) [0, 1] rfl
  refine va_csq (va_runV (rm := rm_modelAt) (As := [.int (zI ((k : Nat) : Int))]) (rest := []) ⟨hx, hb, hml, hown, hts⟩ (c_modelAt l D c x xm d rd mg mk k mo (by omega) (by omega) hmo) (cwV 1 hts (gWV k_To_m60 k_i_To_modelAt k_v_To_modelAt k_n_To k_c_To_modelAt) rfl rfl rfl (by decide +kernel) ⟨Nat.le_of_ble_eq_true rfl, Nat.le_of_ble_eq_true rfl⟩) ⟨zblind, va_recv hK hPc (ci := 4) (q0 := 0) rfl rfl, fun U hU hW => ⟨rfl, by rw [hU]; exact hPc, hKN.moved hW⟩⟩ rfl rfl hl.1 rfl (lv_room (Nat.le_of_ble_eq_true rfl)) d_To_begin_2 ⟨Nat.zero_le _, Nat.zero_le _⟩).run (fun r hr_1 => ?_)
  subst hr_1
  refine z_top (v2 := .ref mo) (rfl) ?_
  refine lv_astore_n (lv' := [(2, .ref mo), (0, .ref x), (1, .int (zI ((k : Nat) : Int)))]) hx hb d_To_begin_5 rfl hl (by decide) rfl (fun ls hl => ?_)
  refine lv_aload_n hx hb d_To_begin_6 rfl (lv_at hl 0 rfl) ?_
  refine lv_ifnonnull (tgt := 12) hx hb d_To_begin_7 (by decide) ?_
  refine lv_aload_n hx hb d_To_begin_12 rfl (lv_at hl 1 rfl) ?_
  refine va_get (D := D) (ci := 4) (v := .ref rd) (C := R_To) (T := T_To) (N := 4) hx hb hts (fun w h => List.mem_cons_of_mem _ (inA_To w h)) hown hK hP 0 rfl rfl 2 (by decide) (hw k_To_f25) (fun _ h9 => h9) rfl d_To_begin_13 ?_
  refine lv_aload_n hx hb d_To_begin_16 rfl (lv_at hl 0 rfl) ?_
  have hPc : va_P D vwCl [(rd, .inr (2, [.ref rn, .ref rc, va_rf rm_, .int (zI ((ct : Nat) : Int))])), (rc, .inr (3, [.ref rcw])), (rcw, .inl (c 2, 4 * 1001, .inr (.inl rv))), (mo, .inr (1, [.ref me, .ref ms, .int (zB dt)])), (me, .inl (c 0, ne, .inl (fun j => zI ((en j : Nat) : Int)))), (ms, .inr (3, [.ref msw])), (msw, .inl (c 2, 4 * (ne + 1), .inr (.inl mf)))] s.heap := hP.sub (ws' := [(rd, .inr (2, [.ref rn, .ref rc, va_rf rm_, .int (zI ((ct : Nat) : Int))])), (rc, .inr (3, [.ref rcw])), (rcw, .inl (c 2, 4 * 1001, .inr (.inl rv))), (mo, .inr (1, [.ref me, .ref ms, .int (zB dt)])), (me, .inl (c 0, ne, .inl (fun j => zI ((en j : Nat) : Int)))), (ms, .inr (3, [.ref msw])), (msw, .inl (c 2, 4 * (ne + 1), .inr (.inl mf)))]) [2, 3, 4, 5, 6, 7, 8] rfl
  have hDc : va_D A [(rd, .inr (2, [.ref rn, .ref rc, va_rf rm_, .int (zI ((ct : Nat) : Int))])), (rc, .inr (3, [.ref rcw])), (rcw, .inl (c 2, 4 * 1001, .inr (.inl rv))), (mo, .inr (1, [.ref me, .ref ms, .int (zB dt)])), (me, .inl (c 0, ne, .inl (fun j => zI ((en j : Nat) : Int)))), (ms, .inr (3, [.ref msw])), (msw, .inl (c 2, 4 * (ne + 1), .inr (.inl mf)))] := hD.sub (ws' := [(rd, .inr (2, [.ref rn, .ref rc, va_rf rm_, .int (zI ((ct : Nat) : Int))])), (rc, .inr (3, [.ref rcw])), (rcw, .inl (c 2, 4 * 1001, .inr (.inl rv))), (mo, .inr (1, [.ref me, .ref ms, .int (zB dt)])), (me, .inl (c 0, ne, .inl (fun j => zI ((en j : Nat) : Int)))), (ms, .inr (3, [.ref msw])), (msw, .inl (c 2, 4 * (ne + 1), .inr (.inl mf)))]) [2, 3, 4, 5, 6, 7, 8] (by decide) rfl
  have hDt : va_D (fun _ => True) [(rd, .inr (2, [.ref rn, .ref rc, va_rf rm_, .int (zI ((ct : Nat) : Int))])), (rc, .inr (3, [.ref rcw])), (rcw, .inl (c 2, 4 * 1001, .inr (.inl rv))), (mo, .inr (1, [.ref me, .ref ms, .int (zB dt)])), (me, .inl (c 0, ne, .inl (fun j => zI ((en j : Nat) : Int)))), (ms, .inr (3, [.ref msw])), (msw, .inl (c 2, 4 * (ne + 1), .inr (.inl mf)))] := hDc.weaken (fun _ _ _ _ => trivial)
  refine z_callv (S := Unit) (w1 := fun u => [(rd, .inr (2, [.ref rn, .ref rc, .ref mo, .int (zI 0)])), (rc, .inr (3, [.ref rcw])), (rcw, .inl (c 2, 4 * 1001, .inr (.inl (zor (zclr rv 0) 0 mf ne)))), (mo, .inr (1, [.ref me, .ref ms, .int (zB dt)])), (me, .inl (c 0, ne, .inl (fun j => zI ((en j : Nat) : Int)))), (ms, .inr (3, [.ref msw])), (msw, .inl (c 2, 4 * (ne + 1), .inr (.inl mf)))]) (post := fun u => True) (wc := [(rd, .inr (2, [.ref rn, .ref rc, va_rf rm_, .int (zI ((ct : Nat) : Int))])), (rc, .inr (3, [.ref rcw])), (rcw, .inl (c 2, 4 * 1001, .inr (.inl rv))), (mo, .inr (1, [.ref me, .ref ms, .int (zB dt)])), (me, .inl (c 0, ne, .inl (fun j => zI ((en j : Nat) : Int)))), (ms, .inr (3, [.ref msw])), (msw, .inl (c 2, 4 * (ne + 1), .inr (.inl mf)))]) [2, 3, 4, 5, 6, 7, 8] rfl (fun _ => rfl) hP hD hS (va_runV (rm := rm_startWith) (As := [.ref mo]) (rest := []) ⟨hx, hb, hml, hown, hts⟩ (c_startWith l D c rd rn rc rcw rm_ nr rv ct mo me ms msw en ne mf dt (by omega) hen) (cwV 1 hts (gWV k_To_m72 k_i_Re_startWith k_v_Re_startWith k_n_Re k_c_Re_startWith) rfl rfl rfl (by decide +kernel) ⟨Nat.le_of_ble_eq_true rfl, Nat.le_of_ble_eq_true rfl⟩) ⟨zblindW, va_recv hK hPc (ci := 2) (q0 := 0) rfl rfl, fun U hU hW => ⟨rfl, ⟨by rw [hU]; exact hPc, hDt⟩, hKN.moved hW⟩⟩ rfl rfl hl.1 rfl (lv_room (Nat.le_of_ble_eq_true rfl)) d_To_begin_17 ⟨Nat.zero_le _, Nat.zero_le _⟩) (fun u H locs hp_2 hP hD hS => ?_)
  have hP : va_P D vwCl [(x, .inr (4, [.ref d, .ref xm, .ref rd, .int (zI ((mk : Nat) : Int))])), (xm, .inl (c 3, 50, .inr (.inr (.inr (.inr mg))))), (rd, .inr (2, [.ref rn, .ref rc, .ref mo, .int (zI 0)])), (rc, .inr (3, [.ref rcw])), (rcw, .inl (c 2, 4 * 1001, .inr (.inl (zor (zclr rv 0) 0 mf ne)))), (mo, .inr (1, [.ref me, .ref ms, .int (zB dt)])), (me, .inl (c 0, ne, .inl (fun j => zI ((en j : Nat) : Int)))), (ms, .inr (3, [.ref msw])), (msw, .inl (c 2, 4 * (ne + 1), .inr (.inl mf)))] H := hP
  have hD : va_D A [(x, .inr (4, [.ref d, .ref xm, .ref rd, .int (zI ((mk : Nat) : Int))])), (xm, .inl (c 3, 50, .inr (.inr (.inr (.inr mg))))), (rd, .inr (2, [.ref rn, .ref rc, .ref mo, .int (zI 0)])), (rc, .inr (3, [.ref rcw])), (rcw, .inl (c 2, 4 * 1001, .inr (.inl (zor (zclr rv 0) 0 mf ne)))), (mo, .inr (1, [.ref me, .ref ms, .int (zB dt)])), (me, .inl (c 0, ne, .inl (fun j => zI ((en j : Nat) : Int)))), (ms, .inr (3, [.ref msw])), (msw, .inl (c 2, 4 * (ne + 1), .inr (.inl mf)))] := hD
  refine lv_iconst (v := zI 1) hx hb d_To_begin_20 (by decide) ?_
  subst hQ
  exact W.zret (ty := .boolean) (v := (zI 1)) hx hb hr (by decide) (fun t9 ht hW => ⟨⟨_, (), rfl, ⟨(by decide), trivial⟩, by show va_P _ _ _ t9.heap; rw [ht]; exact hP⟩, hS.F ht⟩) hS.2.2 d_To_begin_21

def rm_read_bad : Room := { frames := 1, cells := 0, slots := 0, locals := 20 }
set_option maxHeartbeats 4000000 in
set_option maxRecDepth 100000 in
/-- read, no name -/
theorem c_read_bad (l : Launch) (D : va_G) (c : Nat → ClassId) (x : Nat) (xm : Nat) (d : Nat) (rd : Nat) (mg : Nat → Option Nat) (mk : Nat) (y : Int) (hy : -2147483648 ≤ y ∧ y < 2147483648) (hb_ : ¬ (1 ≤ y ∧ y ≤ 1000)) : Met l y_To_read w_To_read rm_read_bad (va_Pc [.ref x, .int (zI y)] (fun U => va_P D vwCl [(x, .inr (4, [.ref d, .ref xm, .ref rd, .int (zI ((mk : Nat) : Int))]))] U.heap ∧ zK D c U)) (vp_Si (fun r => r = (zI (-1)))) 0 0 (fun _ => False) := by
  refine Met.ofW (cc := b_To_read) (maxL := 2) (ret := (some .int)) (by decide) rfl ?_
  intro p e s m args below meth c0 s₁ B hml hv
  obtain ⟨rfl, hP, hKN⟩ := hv
  have hK := hKN.1
  have hN := hKN.2
  have hx := B.exec
  have hb := B.bytes
  have hr := B.returns
  have hts := atoms_spec (ws := w_To_read) B.pre
  have hw : ∀ {w : Cond}, w ∈ ALLW → w.before _ s = true := fun h => hts _ (List.mem_cons_of_mem _ h)
  have hown : s.vm.findClass R_To = some m.cls := findClass_of_methodNamed B.named
  have hlocks := B.notSynchronized
  have hl := lv_entry ([.ref x, .int (zI y)]) (n := 2) (Nat.le_of_ble_eq_true rfl)
  rw [lg_entry_eq]
  generalize (lg_sl ([.ref x, .int (zI y)]) ++ List.replicate (2 - (lg_sl ([.ref x, .int (zI y)])).length) Slot.unset).toArray = ls at hl ⊢
  have hl : lv_has ls 2 [(0, .ref x), (1, .int (zI y))] := hl
  generalize hQ : MQ below _ _ _ _ _ _ = Q
  refine lv_iload_n hx hb d_To_read_0 rfl (lv_at hl 1 rfl) ?_
  have hPc : va_P D vwCl [] s.heap := hP.sub (ws' := []) [] rfl
  refine vp_callSi (va_runS (rm := rm_isName) (As := [.int (zI y)]) (rest := []) ⟨hx, hb, hml, hown, hts⟩ (c_isName l D c y (by omega)) (va_cwS 1 hts (gWS k_To_m33 k_s_To_isName k_n_To k_c_To_isName) rfl rfl rfl (by decide +kernel) ⟨Nat.le_of_ble_eq_true rfl, Nat.le_of_ble_eq_true rfl⟩) ⟨zblind, fun U hU hW => ⟨rfl, by rw [hU]; exact hPc, hKN.moved hW⟩⟩ rfl rfl hl.1 rfl (lv_room (Nat.le_of_ble_eq_true rfl)) d_To_read_1 ⟨Nat.zero_le _, Nat.zero_le _⟩).run (fun r hr_1 => ?_)
  subst hr_1
  refine z_ifeq_B (tgt := 28) hx hb d_To_read_4 (by decide) (fun hc_4 => ?_) (fun hc_4 => (absurd hc_4 (by rw [decide_eq_false (by omega)]; decide)))
  refine lv_iconst (v := zI (-1)) hx hb d_To_read_28 (by decide) ?_
  subst hQ
  exact W.iret (v := (zI (-1))) hx hb hr (fun t9 ht hW => ⟨_, rfl, rfl, ht⟩) (fun q hq => absurd hq List.not_mem_nil) d_To_read_29

def rm_read_null : Room := { frames := 1, cells := 0, slots := 0, locals := 21 }
set_option maxHeartbeats 4000000 in
set_option maxRecDepth 100000 in
/-- read, nothing begun -/
theorem c_read_null (l : Launch) (D : va_G) (c : Nat → ClassId) (x : Nat) (xm : Nat) (d : Nat) (rd : Nat) (mg : Nat → Option Nat) (mk : Nat) (rn : Nat) (rc : Nat) (rcw : Nat) (nr : Nat → Nat) (rv : Nat → Int64) (ct : Nat) (n : Nat) (hn_ : 1 ≤ n ∧ n ≤ 1000) : Met l y_To_read w_To_read rm_read_null (va_Pc [.ref x, .int (zI ((n : Nat) : Int))] (fun U => va_P D vwCl [(x, .inr (4, [.ref d, .ref xm, .ref rd, .int (zI ((mk : Nat) : Int))])), (rd, .inr (2, [.ref rn, .ref rc, .null, .int (zI ((ct : Nat) : Int))]))] U.heap ∧ zK D c U)) (vp_Si (fun r => r = (zI (-1)))) 0 0 (fun _ => False) := by
  refine Met.ofW (cc := b_To_read) (maxL := 2) (ret := (some .int)) (by decide) rfl ?_
  intro p e s m args below meth c0 s₁ B hml hv
  obtain ⟨rfl, hP, hKN⟩ := hv
  have hK := hKN.1
  have hN := hKN.2
  have hx := B.exec
  have hb := B.bytes
  have hr := B.returns
  have hts := atoms_spec (ws := w_To_read) B.pre
  have hw : ∀ {w : Cond}, w ∈ ALLW → w.before _ s = true := fun h => hts _ (List.mem_cons_of_mem _ h)
  have hown : s.vm.findClass R_To = some m.cls := findClass_of_methodNamed B.named
  have hlocks := B.notSynchronized
  have hl := lv_entry ([.ref x, .int (zI ((n : Nat) : Int))]) (n := 2) (Nat.le_of_ble_eq_true rfl)
  rw [lg_entry_eq]
  generalize (lg_sl ([.ref x, .int (zI ((n : Nat) : Int))]) ++ List.replicate (2 - (lg_sl ([.ref x, .int (zI ((n : Nat) : Int))])).length) Slot.unset).toArray = ls at hl ⊢
  have hl : lv_has ls 2 [(0, .ref x), (1, .int (zI ((n : Nat) : Int)))] := hl
  generalize hQ : MQ below _ _ _ _ _ _ = Q
  refine lv_iload_n hx hb d_To_read_0 rfl (lv_at hl 1 rfl) ?_
  have hPc : va_P D vwCl [] s.heap := hP.sub (ws' := []) [] rfl
  refine vp_callSi (va_runS (rm := rm_isName) (As := [.int (zI ((n : Nat) : Int))]) (rest := []) ⟨hx, hb, hml, hown, hts⟩ (c_isName l D c ((n : Nat) : Int) (by omega)) (va_cwS 1 hts (gWS k_To_m33 k_s_To_isName k_n_To k_c_To_isName) rfl rfl rfl (by decide +kernel) ⟨Nat.le_of_ble_eq_true rfl, Nat.le_of_ble_eq_true rfl⟩) ⟨zblind, fun U hU hW => ⟨rfl, by rw [hU]; exact hPc, hKN.moved hW⟩⟩ rfl rfl hl.1 rfl (lv_room (Nat.le_of_ble_eq_true rfl)) d_To_read_1 ⟨Nat.zero_le _, Nat.zero_le _⟩).run (fun r hr_1 => ?_)
  subst hr_1
  refine z_ifeq_B (tgt := 28) hx hb d_To_read_4 (by decide) (fun hc_4 => (absurd hc_4 (by rw [decide_eq_true (by omega)]; decide))) (fun hc_4 => ?_)
  refine lv_aload_n hx hb d_To_read_7 rfl (lv_at hl 0 rfl) ?_
  refine va_get (D := D) (ci := 4) (v := .ref rd) (C := R_To) (T := T_To) (N := 4) hx hb hts (fun w h => List.mem_cons_of_mem _ (inA_To w h)) hown hK hP 0 rfl rfl 2 (by decide) (hw k_To_f25) (fun _ h9 => h9) rfl d_To_read_8 ?_
  refine lv_iload_n hx hb d_To_read_11 rfl (lv_at hl 1 rfl) ?_
  have hPc : va_P D vwCl [(rd, .inr (2, [.ref rn, .ref rc, .null, .int (zI ((ct : Nat) : Int))]))] s.heap := hP.sub (ws' := [(rd, .inr (2, [.ref rn, .ref rc, .null, .int (zI ((ct : Nat) : Int))]))]) [1] rfl
  refine vp_callSi (va_runV (rm := rm_take_null) (As := [.int (zI ((n : Nat) : Int))]) (rest := []) ⟨hx, hb, hml, hown, hts⟩ (c_take_null l D c rd rn rc rcw nr rv ct n) (cwV 1 hts (gWV k_To_m76 k_i_Re_take k_v_Re_take k_n_Re k_c_Re_take) rfl rfl rfl (by decide +kernel) ⟨Nat.le_of_ble_eq_true rfl, Nat.le_of_ble_eq_true rfl⟩) ⟨zblind, va_recv hK hPc (ci := 2) (q0 := 0) rfl rfl, fun U hU hW => ⟨rfl, by rw [hU]; exact hPc, hKN.moved hW⟩⟩ rfl rfl hl.1 rfl (lv_room (Nat.le_of_ble_eq_true rfl)) d_To_read_12 ⟨Nat.zero_le _, Nat.zero_le _⟩).run (fun r hr_2 => ?_)
  subst hr_2
  refine z_ifeq_B (tgt := 28) hx hb d_To_read_15 (by decide) (fun hc_15 => ?_) (fun hc_15 => (absurd hc_15 (by decide)))
  refine lv_iconst (v := zI (-1)) hx hb d_To_read_28 (by decide) ?_
  subst hQ
  exact W.iret (v := (zI (-1))) hx hb hr (fun t9 ht hW => ⟨_, rfl, rfl, ht⟩) (fun q hq => absurd hq List.not_mem_nil) d_To_read_29

def rm_read_full : Room := { frames := 1, cells := 0, slots := 0, locals := 21 }
set_option maxHeartbeats 4000000 in
set_option maxRecDepth 100000 in
/-- read, 1000 were read -/
theorem c_read_full (l : Launch) (D : va_G) (c : Nat → ClassId) (x : Nat) (xm : Nat) (d : Nat) (rd : Nat) (mg : Nat → Option Nat) (mk : Nat) (rn : Nat) (rc : Nat) (rcw : Nat) (nr : Nat → Nat) (rv : Nat → Int64) (mo : Nat) (n : Nat) (hn_ : 1 ≤ n ∧ n ≤ 1000) : Met l y_To_read w_To_read rm_read_full (va_Pc [.ref x, .int (zI ((n : Nat) : Int))] (fun U => va_P D vwCl [(x, .inr (4, [.ref d, .ref xm, .ref rd, .int (zI ((mk : Nat) : Int))])), (rd, .inr (2, [.ref rn, .ref rc, .ref mo, .int (zI ((1000 : Nat) : Int))])), (rn, .inl (c 0, 1000, .inl (fun j => zI ((nr j : Nat) : Int))))] U.heap ∧ zK D c U)) (vp_Si (fun r => r = (zI (-1)))) 0 0 (fun _ => False) := by
  refine Met.ofW (cc := b_To_read) (maxL := 2) (ret := (some .int)) (by decide) rfl ?_
  intro p e s m args below meth c0 s₁ B hml hv
  obtain ⟨rfl, hP, hKN⟩ := hv
  have hK := hKN.1
  have hN := hKN.2
  have hx := B.exec
  have hb := B.bytes
  have hr := B.returns
  have hts := atoms_spec (ws := w_To_read) B.pre
  have hw : ∀ {w : Cond}, w ∈ ALLW → w.before _ s = true := fun h => hts _ (List.mem_cons_of_mem _ h)
  have hown : s.vm.findClass R_To = some m.cls := findClass_of_methodNamed B.named
  have hlocks := B.notSynchronized
  have hl := lv_entry ([.ref x, .int (zI ((n : Nat) : Int))]) (n := 2) (Nat.le_of_ble_eq_true rfl)
  rw [lg_entry_eq]
  generalize (lg_sl ([.ref x, .int (zI ((n : Nat) : Int))]) ++ List.replicate (2 - (lg_sl ([.ref x, .int (zI ((n : Nat) : Int))])).length) Slot.unset).toArray = ls at hl ⊢
  have hl : lv_has ls 2 [(0, .ref x), (1, .int (zI ((n : Nat) : Int)))] := hl
  generalize hQ : MQ below _ _ _ _ _ _ = Q
  refine lv_iload_n hx hb d_To_read_0 rfl (lv_at hl 1 rfl) ?_
  have hPc : va_P D vwCl [] s.heap := hP.sub (ws' := []) [] rfl
  refine vp_callSi (va_runS (rm := rm_isName) (As := [.int (zI ((n : Nat) : Int))]) (rest := []) ⟨hx, hb, hml, hown, hts⟩ (c_isName l D c ((n : Nat) : Int) (by omega)) (va_cwS 1 hts (gWS k_To_m33 k_s_To_isName k_n_To k_c_To_isName) rfl rfl rfl (by decide +kernel) ⟨Nat.le_of_ble_eq_true rfl, Nat.le_of_ble_eq_true rfl⟩) ⟨zblind, fun U hU hW => ⟨rfl, by rw [hU]; exact hPc, hKN.moved hW⟩⟩ rfl rfl hl.1 rfl (lv_room (Nat.le_of_ble_eq_true rfl)) d_To_read_1 ⟨Nat.zero_le _, Nat.zero_le _⟩).run (fun r hr_1 => ?_)
  subst hr_1
  refine z_ifeq_B (tgt := 28) hx hb d_To_read_4 (by decide) (fun hc_4 => (absurd hc_4 (by rw [decide_eq_true (by omega)]; decide))) (fun hc_4 => ?_)
  refine lv_aload_n hx hb d_To_read_7 rfl (lv_at hl 0 rfl) ?_
  refine va_get (D := D) (ci := 4) (v := .ref rd) (C := R_To) (T := T_To) (N := 4) hx hb hts (fun w h => List.mem_cons_of_mem _ (inA_To w h)) hown hK hP 0 rfl rfl 2 (by decide) (hw k_To_f25) (fun _ h9 => h9) rfl d_To_read_8 ?_
  refine lv_iload_n hx hb d_To_read_11 rfl (lv_at hl 1 rfl) ?_
  have hPc : va_P D vwCl [(rd, .inr (2, [.ref rn, .ref rc, .ref mo, .int (zI ((1000 : Nat) : Int))])), (rn, .inl (c 0, 1000, .inl (fun j => zI ((nr j : Nat) : Int))))] s.heap := hP.sub (ws' := [(rd, .inr (2, [.ref rn, .ref rc, .ref mo, .int (zI ((1000 : Nat) : Int))])), (rn, .inl (c 0, 1000, .inl (fun j => zI ((nr j : Nat) : Int))))]) [1, 2] rfl
  refine vp_callSi (va_runV (rm := rm_take_full) (As := [.int (zI ((n : Nat) : Int))]) (rest := []) ⟨hx, hb, hml, hown, hts⟩ (c_take_full l D c rd rn rc rcw nr rv mo n) (cwV 1 hts (gWV k_To_m76 k_i_Re_take k_v_Re_take k_n_Re k_c_Re_take) rfl rfl rfl (by decide +kernel) ⟨Nat.le_of_ble_eq_true rfl, Nat.le_of_ble_eq_true rfl⟩) ⟨zblind, va_recv hK hPc (ci := 2) (q0 := 0) rfl rfl, fun U hU hW => ⟨rfl, by rw [hU]; exact hPc, hKN.moved hW⟩⟩ rfl rfl hl.1 rfl (lv_room (Nat.le_of_ble_eq_true rfl)) d_To_read_12 ⟨Nat.zero_le _, Nat.zero_le _⟩).run (fun r hr_2 => ?_)
  subst hr_2
  refine z_ifeq_B (tgt := 28) hx hb d_To_read_15 (by decide) (fun hc_15 => ?_) (fun hc_15 => (absurd hc_15 (by decide)))
  refine lv_iconst (v := zI (-1)) hx hb d_To_read_28 (by decide) ?_
  subst hQ
  exact W.iret (v := (zI (-1))) hx hb hr (fun t9 ht hW => ⟨_, rfl, rfl, ht⟩) (fun q hq => absurd hq List.not_mem_nil) d_To_read_29

def rm_read : Room := { frames := 5, cells := 0, slots := 0, locals := 111 }
set_option maxHeartbeats 4000000 in
set_option maxRecDepth 100000 in
/-- read -/
theorem c_read (l : Launch) (D : va_G) (c : Nat → ClassId) (x : Nat) (xm : Nat) (d : Nat) (rd : Nat) (mg : Nat → Option Nat) (mk : Nat) (rn : Nat) (rc : Nat) (rcw : Nat) (nr : Nat → Nat) (rv : Nat → Int64) (ct : Nat) (mo : Nat) (me : Nat) (ms : Nat) (msw : Nat) (en : Nat → Nat) (ne : Nat) (mf : Nat → Int64) (dt : Bool) (n : Nat) (hn_ : 1 ≤ n ∧ n ≤ 1000) (hne : ne ≤ 255) (hen : ∀ j, j < ne → en j < 300000) (hoc : ∀ j, j < ne → en j % 256 < ne + 1) (hct : ct < 1000) : Met l y_To_read w_To_read rm_read (va_Pc [.ref x, .int (zI ((n : Nat) : Int))] (fun U => (va_P D vwCl [(x, .inr (4, [.ref d, .ref xm, .ref rd, .int (zI ((mk : Nat) : Int))])), (rd, .inr (2, [.ref rn, .ref rc, .ref mo, .int (zI ((ct : Nat) : Int))])), (rn, .inl (c 0, 1000, .inl (fun j => zI ((nr j : Nat) : Int)))), (rc, .inr (3, [.ref rcw])), (rcw, .inl (c 2, 4 * 1001, .inr (.inl rv))), (mo, .inr (1, [.ref me, .ref ms, .int (zB dt)])), (me, .inl (c 0, ne, .inl (fun j => zI ((en j : Nat) : Int)))), (ms, .inr (3, [.ref msw])), (msw, .inl (c 2, 4 * (ne + 1), .inr (.inl mf)))] U.heap ∧ va_D (fun _ => True) [(x, .inr (4, [.ref d, .ref xm, .ref rd, .int (zI ((mk : Nat) : Int))])), (rd, .inr (2, [.ref rn, .ref rc, .ref mo, .int (zI ((ct : Nat) : Int))])), (rn, .inl (c 0, 1000, .inl (fun j => zI ((nr j : Nat) : Int)))), (rc, .inr (3, [.ref rcw])), (rcw, .inl (c 2, 4 * 1001, .inr (.inl rv))), (mo, .inr (1, [.ref me, .ref ms, .int (zB dt)])), (me, .inl (c 0, ne, .inl (fun j => zI ((en j : Nat) : Int)))), (ms, .inr (3, [.ref msw])), (msw, .inl (c 2, 4 * (ne + 1), .inr (.inl mf)))]) ∧ zK D c U)) (va_Qi (fun (r : Int32) (u : Unit) => r = (zI ((ct + 1 : Nat) : Int)) ∧ True) (fun (u : Unit) t9 => va_P D vwCl [(x, .inr (4, [.ref d, .ref xm, .ref rd, .int (zI ((mk : Nat) : Int))])), (rd, .inr (2, [.ref rn, .ref rc, .ref mo, .int (zI ((ct + 1 : Nat) : Int))])), (rn, .inl (c 0, 1000, .inl (fun j => zI (((va_up nr ct n) j : Nat) : Int)))), (rc, .inr (3, [.ref rcw])), (rcw, .inl (c 2, 4 * 1001, .inr (.inl (pbk rv en mf ct n ne)))), (mo, .inr (1, [.ref me, .ref ms, .int (zB dt)])), (me, .inl (c 0, ne, .inl (fun j => zI ((en j : Nat) : Int)))), (ms, .inr (3, [.ref msw])), (msw, .inl (c 2, 4 * (ne + 1), .inr (.inl mf)))] t9.heap) (zA [(x, .inr (4, [.ref d, .ref xm, .ref rd, .int (zI ((mk : Nat) : Int))])), (rd, .inr (2, [.ref rn, .ref rc, .ref mo, .int (zI ((ct : Nat) : Int))])), (rn, .inl (c 0, 1000, .inl (fun j => zI ((nr j : Nat) : Int)))), (rc, .inr (3, [.ref rcw])), (rcw, .inl (c 2, 4 * 1001, .inr (.inl rv))), (mo, .inr (1, [.ref me, .ref ms, .int (zB dt)])), (me, .inl (c 0, ne, .inl (fun j => zI ((en j : Nat) : Int)))), (ms, .inr (3, [.ref msw])), (msw, .inl (c 2, 4 * (ne + 1), .inr (.inl mf)))])) 0 0 (zA [(x, .inr (4, [.ref d, .ref xm, .ref rd, .int (zI ((mk : Nat) : Int))])), (rd, .inr (2, [.ref rn, .ref rc, .ref mo, .int (zI ((ct : Nat) : Int))])), (rn, .inl (c 0, 1000, .inl (fun j => zI ((nr j : Nat) : Int)))), (rc, .inr (3, [.ref rcw])), (rcw, .inl (c 2, 4 * 1001, .inr (.inl rv))), (mo, .inr (1, [.ref me, .ref ms, .int (zB dt)])), (me, .inl (c 0, ne, .inl (fun j => zI ((en j : Nat) : Int)))), (ms, .inr (3, [.ref msw])), (msw, .inl (c 2, 4 * (ne + 1), .inr (.inl mf)))]) := by
  refine Met.ofW (cc := b_To_read) (maxL := 2) (ret := (some .int)) (by decide) rfl ?_
  intro p e s m args below meth c0 s₁ B hml hv
  obtain ⟨rfl, ⟨hP, hD0⟩, hKN⟩ := hv
  have hK := hKN.1
  have hN := hKN.2
  have hx := B.exec
  have hb := B.bytes
  have hr := B.returns
  have hts := atoms_spec (ws := w_To_read) B.pre
  have hw : ∀ {w : Cond}, w ∈ ALLW → w.before _ s = true := fun h => hts _ (List.mem_cons_of_mem _ h)
  have hown : s.vm.findClass R_To = some m.cls := findClass_of_methodNamed B.named
  have hlocks := B.notSynchronized
  have hD : va_D (zA [(x, .inr (4, [.ref d, .ref xm, .ref rd, .int (zI ((mk : Nat) : Int))])), (rd, .inr (2, [.ref rn, .ref rc, .ref mo, .int (zI ((ct : Nat) : Int))])), (rn, .inl (c 0, 1000, .inl (fun j => zI ((nr j : Nat) : Int)))), (rc, .inr (3, [.ref rcw])), (rcw, .inl (c 2, 4 * 1001, .inr (.inl rv))), (mo, .inr (1, [.ref me, .ref ms, .int (zB dt)])), (me, .inl (c 0, ne, .inl (fun j => zI ((en j : Nat) : Int)))), (ms, .inr (3, [.ref msw])), (msw, .inl (c 2, 4 * (ne + 1), .inr (.inl mf)))]) [(x, .inr (4, [.ref d, .ref xm, .ref rd, .int (zI ((mk : Nat) : Int))])), (rd, .inr (2, [.ref rn, .ref rc, .ref mo, .int (zI ((ct : Nat) : Int))])), (rn, .inl (c 0, 1000, .inl (fun j => zI ((nr j : Nat) : Int)))), (rc, .inr (3, [.ref rcw])), (rcw, .inl (c 2, 4 * 1001, .inr (.inl rv))), (mo, .inr (1, [.ref me, .ref ms, .int (zB dt)])), (me, .inl (c 0, ne, .inl (fun j => zI ((en j : Nat) : Int)))), (ms, .inr (3, [.ref msw])), (msw, .inl (c 2, 4 * (ne + 1), .inr (.inl mf)))] := ⟨hD0.1, fun k q h => List.mem_map.mpr ⟨q, List.mem_of_getElem? h, rfl⟩⟩
  generalize hAe : zA [(x, .inr (4, [.ref d, .ref xm, .ref rd, .int (zI ((mk : Nat) : Int))])), (rd, .inr (2, [.ref rn, .ref rc, .ref mo, .int (zI ((ct : Nat) : Int))])), (rn, .inl (c 0, 1000, .inl (fun j => zI ((nr j : Nat) : Int)))), (rc, .inr (3, [.ref rcw])), (rcw, .inl (c 2, 4 * 1001, .inr (.inl rv))), (mo, .inr (1, [.ref me, .ref ms, .int (zB dt)])), (me, .inl (c 0, ne, .inl (fun j => zI ((en j : Nat) : Int)))), (ms, .inr (3, [.ref msw])), (msw, .inl (c 2, 4 * (ne + 1), .inr (.inl mf)))] = A at hD ⊢
  have hS : va_S A s.heap s.heap [] := va_S.rf
  have hP : va_P D vwCl [(x, .inr (4, [.ref d, .ref xm, .ref rd, .int (zI ((mk : Nat) : Int))])), (rd, .inr (2, [.ref rn, .ref rc, .ref mo, .int (zI ((ct : Nat) : Int))])), (rn, .inl (c 0, 1000, .inl (fun j => zI ((nr j : Nat) : Int)))), (rc, .inr (3, [.ref rcw])), (rcw, .inl (c 2, 4 * 1001, .inr (.inl rv))), (mo, .inr (1, [.ref me, .ref ms, .int (zB dt)])), (me, .inl (c 0, ne, .inl (fun j => zI ((en j : Nat) : Int)))), (ms, .inr (3, [.ref msw])), (msw, .inl (c 2, 4 * (ne + 1), .inr (.inl mf)))] s.heap := hP
  have hl := lv_entry ([.ref x, .int (zI ((n : Nat) : Int))]) (n := 2) (Nat.le_of_ble_eq_true rfl)
  rw [lg_entry_eq]
  generalize (lg_sl ([.ref x, .int (zI ((n : Nat) : Int))]) ++ List.replicate (2 - (lg_sl ([.ref x, .int (zI ((n : Nat) : Int))])).length) Slot.unset).toArray = ls at hl ⊢
  have hl : lv_has ls 2 [(0, .ref x), (1, .int (zI ((n : Nat) : Int)))] := hl
  generalize hQ : MQ below _ _ _ _ _ _ = Q
  refine lv_iload_n hx hb d_To_read_0 rfl (lv_at hl 1 rfl) ?_
  have hPc : va_P D vwCl [] s.heap := hP.sub (ws' := []) [] rfl
  refine vp_callSi (va_runS (rm := rm_isName) (As := [.int (zI ((n : Nat) : Int))]) (rest := []) ⟨hx, hb, hml, hown, hts⟩ (c_isName l D c ((n : Nat) : Int) (by omega)) (va_cwS 1 hts (gWS k_To_m33 k_s_To_isName k_n_To k_c_To_isName) rfl rfl rfl (by decide +kernel) ⟨Nat.le_of_ble_eq_true rfl, Nat.le_of_ble_eq_true rfl⟩) ⟨zblind, fun U hU hW => ⟨rfl, by rw [hU]; exact hPc, hKN.moved hW⟩⟩ rfl rfl hl.1 rfl (lv_room (Nat.le_of_ble_eq_true rfl)) d_To_read_1 ⟨Nat.zero_le _, Nat.zero_le _⟩).run (fun r hr_1 => ?_)
  subst hr_1
  refine z_ifeq_B (tgt := 28) hx hb d_To_read_4 (by decide) (fun hc_4 => (absurd hc_4 (by rw [decide_eq_true (by omega)]; decide))) (fun hc_4 => ?_)
  refine lv_aload_n hx hb d_To_read_7 rfl (lv_at hl 0 rfl) ?_
  refine va_get (D := D) (ci := 4) (v := .ref rd) (C := R_To) (T := T_To) (N := 4) hx hb hts (fun w h => List.mem_cons_of_mem _ (inA_To w h)) hown hK hP 0 rfl rfl 2 (by decide) (hw k_To_f25) (fun _ h9 => h9) rfl d_To_read_8 ?_
  refine lv_iload_n hx hb d_To_read_11 rfl (lv_at hl 1 rfl) ?_
  have hPc : va_P D vwCl [(rd, .inr (2, [.ref rn, .ref rc, .ref mo, .int (zI ((ct : Nat) : Int))])), (rn, .inl (c 0, 1000, .inl (fun j => zI ((nr j : Nat) : Int)))), (rc, .inr (3, [.ref rcw])), (rcw, .inl (c 2, 4 * 1001, .inr (.inl rv))), (mo, .inr (1, [.ref me, .ref ms, .int (zB dt)])), (me, .inl (c 0, ne, .inl (fun j => zI ((en j : Nat) : Int)))), (ms, .inr (3, [.ref msw])), (msw, .inl (c 2, 4 * (ne + 1), .inr (.inl mf)))] s.heap := hP.sub (ws' := [(rd, .inr (2, [.ref rn, .ref rc, .ref mo, .int (zI ((ct : Nat) : Int))])), (rn, .inl (c 0, 1000, .inl (fun j => zI ((nr j : Nat) : Int)))), (rc, .inr (3, [.ref rcw])), (rcw, .inl (c 2, 4 * 1001, .inr (.inl rv))), (mo, .inr (1, [.ref me, .ref ms, .int (zB dt)])), (me, .inl (c 0, ne, .inl (fun j => zI ((en j : Nat) : Int)))), (ms, .inr (3, [.ref msw])), (msw, .inl (c 2, 4 * (ne + 1), .inr (.inl mf)))]) [1, 2, 3, 4, 5, 6, 7, 8] rfl
  have hDc : va_D A [(rd, .inr (2, [.ref rn, .ref rc, .ref mo, .int (zI ((ct : Nat) : Int))])), (rn, .inl (c 0, 1000, .inl (fun j => zI ((nr j : Nat) : Int)))), (rc, .inr (3, [.ref rcw])), (rcw, .inl (c 2, 4 * 1001, .inr (.inl rv))), (mo, .inr (1, [.ref me, .ref ms, .int (zB dt)])), (me, .inl (c 0, ne, .inl (fun j => zI ((en j : Nat) : Int)))), (ms, .inr (3, [.ref msw])), (msw, .inl (c 2, 4 * (ne + 1), .inr (.inl mf)))] := hD.sub (ws' := [(rd, .inr (2, [.ref rn, .ref rc, .ref mo, .int (zI ((ct : Nat) : Int))])), (rn, .inl (c 0, 1000, .inl (fun j => zI ((nr j : Nat) : Int)))), (rc, .inr (3, [.ref rcw])), (rcw, .inl (c 2, 4 * 1001, .inr (.inl rv))), (mo, .inr (1, [.ref me, .ref ms, .int (zB dt)])), (me, .inl (c 0, ne, .inl (fun j => zI ((en j : Nat) : Int)))), (ms, .inr (3, [.ref msw])), (msw, .inl (c 2, 4 * (ne + 1), .inr (.inl mf)))]) [1, 2, 3, 4, 5, 6, 7, 8] (by decide) rfl
  have hDt : va_D (fun _ => True) [(rd, .inr (2, [.ref rn, .ref rc, .ref mo, .int (zI ((ct : Nat) : Int))])), (rn, .inl (c 0, 1000, .inl (fun j => zI ((nr j : Nat) : Int)))), (rc, .inr (3, [.ref rcw])), (rcw, .inl (c 2, 4 * 1001, .inr (.inl rv))), (mo, .inr (1, [.ref me, .ref ms, .int (zB dt)])), (me, .inl (c 0, ne, .inl (fun j => zI ((en j : Nat) : Int)))), (ms, .inr (3, [.ref msw])), (msw, .inl (c 2, 4 * (ne + 1), .inr (.inl mf)))] := hDc.weaken (fun _ _ _ _ => trivial)
  refine z_calli (S := Unit) (w1 := fun u => [(rd, .inr (2, [.ref rn, .ref rc, .ref mo, .int (zI ((ct + 1 : Nat) : Int))])), (rn, .inl (c 0, 1000, .inl (fun j => zI (((va_up nr ct n) j : Nat) : Int)))), (rc, .inr (3, [.ref rcw])), (rcw, .inl (c 2, 4 * 1001, .inr (.inl (pbk rv en mf ct n ne)))), (mo, .inr (1, [.ref me, .ref ms, .int (zB dt)])), (me, .inl (c 0, ne, .inl (fun j => zI ((en j : Nat) : Int)))), (ms, .inr (3, [.ref msw])), (msw, .inl (c 2, 4 * (ne + 1), .inr (.inl mf)))]) (post := fun r u => r = (zB true) ∧ True) (wc := [(rd, .inr (2, [.ref rn, .ref rc, .ref mo, .int (zI ((ct : Nat) : Int))])), (rn, .inl (c 0, 1000, .inl (fun j => zI ((nr j : Nat) : Int)))), (rc, .inr (3, [.ref rcw])), (rcw, .inl (c 2, 4 * 1001, .inr (.inl rv))), (mo, .inr (1, [.ref me, .ref ms, .int (zB dt)])), (me, .inl (c 0, ne, .inl (fun j => zI ((en j : Nat) : Int)))), (ms, .inr (3, [.ref msw])), (msw, .inl (c 2, 4 * (ne + 1), .inr (.inl mf)))]) [1, 2, 3, 4, 5, 6, 7, 8] rfl (fun _ => rfl) hP hD hS (va_runV (rm := rm_take) (As := [.int (zI ((n : Nat) : Int))]) (rest := []) ⟨hx, hb, hml, hown, hts⟩ (c_take l D c rd rn rc rcw nr rv ct mo me ms msw en ne mf dt n (by omega) hen hoc (by omega) (by omega)) (cwV 1 hts (gWV k_To_m76 k_i_Re_take k_v_Re_take k_n_Re k_c_Re_take) rfl rfl rfl (by decide +kernel) ⟨Nat.le_of_ble_eq_true rfl, Nat.le_of_ble_eq_true rfl⟩) ⟨zblindW, va_recv hK hPc (ci := 2) (q0 := 0) rfl rfl, fun U hU hW => ⟨rfl, ⟨by rw [hU]; exact hPc, hDt⟩, hKN.moved hW⟩⟩ rfl rfl hl.1 rfl (lv_room (Nat.le_of_ble_eq_true rfl)) d_To_read_12 ⟨Nat.zero_le _, Nat.zero_le _⟩) (fun r u H locs hp_2 hP hD hS => ?_)
  obtain ⟨hr_2, hp_2⟩ := hp_2
  subst hr_2
  have hP : va_P D vwCl [(x, .inr (4, [.ref d, .ref xm, .ref rd, .int (zI ((mk : Nat) : Int))])), (rd, .inr (2, [.ref rn, .ref rc, .ref mo, .int (zI ((ct + 1 : Nat) : Int))])), (rn, .inl (c 0, 1000, .inl (fun j => zI (((va_up nr ct n) j : Nat) : Int)))), (rc, .inr (3, [.ref rcw])), (rcw, .inl (c 2, 4 * 1001, .inr (.inl (pbk rv en mf ct n ne)))), (mo, .inr (1, [.ref me, .ref ms, .int (zB dt)])), (me, .inl (c 0, ne, .inl (fun j => zI ((en j : Nat) : Int)))), (ms, .inr (3, [.ref msw])), (msw, .inl (c 2, 4 * (ne + 1), .inr (.inl mf)))] H := hP
  have hD : va_D A [(x, .inr (4, [.ref d, .ref xm, .ref rd, .int (zI ((mk : Nat) : Int))])), (rd, .inr (2, [.ref rn, .ref rc, .ref mo, .int (zI ((ct + 1 : Nat) : Int))])), (rn, .inl (c 0, 1000, .inl (fun j => zI (((va_up nr ct n) j : Nat) : Int)))), (rc, .inr (3, [.ref rcw])), (rcw, .inl (c 2, 4 * 1001, .inr (.inl (pbk rv en mf ct n ne)))), (mo, .inr (1, [.ref me, .ref ms, .int (zB dt)])), (me, .inl (c 0, ne, .inl (fun j => zI ((en j : Nat) : Int)))), (ms, .inr (3, [.ref msw])), (msw, .inl (c 2, 4 * (ne + 1), .inr (.inl mf)))] := hD
  refine z_ifeq_B (tgt := 28) hx hb d_To_read_15 (by decide) (fun hc_15 => (absurd hc_15 (by decide))) (fun hc_15 => ?_)
  refine lv_aload_n hx hb d_To_read_18 rfl (lv_at hl 0 rfl) ?_
  refine va_get (D := D) (ci := 4) (v := .ref rd) (C := R_To) (T := T_To) (N := 4) hx hb hts (fun w h => List.mem_cons_of_mem _ (inA_To w h)) hown hK hP 0 rfl rfl 2 (by decide) (hw k_To_f25) (fun _ h9 => h9) rfl d_To_read_19 ?_
  refine va_getN (D := D) (ci := 2) (v := .int (zI ((ct + 1 : Nat) : Int))) (C := R_Re) (T := T_Re) (N := 4) hx hb hts (fun w h => List.mem_cons_of_mem _ (inA_Re w h)) hown hK hP 1 rfl rfl 3 (by decide) (va_Nw.use rfl hN.2.2.2.1) (fun _ h9 => h9) rfl d_To_read_22 ?_
  refine lv_goto (tgt := 29) hx hb d_To_read_25 (by decide) ?_
  subst hQ
  exact W.iret (v := (zI ((ct + 1 : Nat) : Int))) hx hb hr (fun t9 ht hW => ⟨⟨_, (), rfl, ⟨rfl, trivial⟩, by show va_P _ _ _ t9.heap; rw [ht]; exact hP⟩, hS.F ht⟩) hS.2.2 d_To_read_29

def rm_isWhole_null : Room := { frames := 1, cells := 0, slots := 0, locals := 20 }
set_option maxHeartbeats 4000000 in
set_option maxRecDepth 100000 in
/-- isWhole_null -/
theorem c_isWhole_null (l : Launch) (D : va_G) (c : Nat → ClassId) (x : Nat) (xm : Nat) (d : Nat) (mg : Nat → Option Nat) (mk : Nat) (rd : Nat) (rn : Nat) (rc : Nat) (rcw : Nat) (nr : Nat → Nat) (rv : Nat → Int64) (ct : Nat)  : Met l y_To_isWhole w_To_isWhole rm_isWhole_null (va_Pc [.ref x] (fun U => va_P D vwCl [(x, .inr (4, [.ref d, .ref xm, .ref rd, .int (zI ((mk : Nat) : Int))])), (rd, .inr (2, [.ref rn, .ref rc, .null, .int (zI ((ct : Nat) : Int))]))] U.heap ∧ zK D c U)) (vp_Si (fun r => r = (zB false))) 0 0 (fun _ => False) := by
  refine Met.ofW (cc := b_To_isWhole) (maxL := 1) (ret := (some .boolean)) (by decide) rfl ?_
  intro p e s m args below meth c0 s₁ B hml hv
  obtain ⟨rfl, hP, hKN⟩ := hv
  have hK := hKN.1
  have hN := hKN.2
  have hx := B.exec
  have hb := B.bytes
  have hr := B.returns
  have hts := atoms_spec (ws := w_To_isWhole) B.pre
  have hw : ∀ {w : Cond}, w ∈ ALLW → w.before _ s = true := fun h => hts _ (List.mem_cons_of_mem _ h)
  have hown : s.vm.findClass R_To = some m.cls := findClass_of_methodNamed B.named
  have hlocks := B.notSynchronized
  have hl := lv_entry ([.ref x]) (n := 1) (Nat.le_of_ble_eq_true rfl)
  rw [lg_entry_eq]
  generalize (lg_sl ([.ref x]) ++ List.replicate (1 - (lg_sl ([.ref x])).length) Slot.unset).toArray = ls at hl ⊢
  have hl : lv_has ls 1 [(0, .ref x)] := hl
  generalize hQ : MQ below _ _ _ _ _ _ = Q
  refine lv_aload_n hx hb d_To_isWhole_0 rfl (lv_at hl 0 rfl) ?_
  refine va_get (D := D) (ci := 4) (v := .ref rd) (C := R_To) (T := T_To) (N := 4) hx hb hts (fun w h => List.mem_cons_of_mem _ (inA_To w h)) hown hK hP 0 rfl rfl 2 (by decide) (hw k_To_f25) (fun _ h9 => h9) rfl d_To_isWhole_1 ?_
  have hPc : va_P D vwCl [(rd, .inr (2, [.ref rn, .ref rc, .null, .int (zI ((ct : Nat) : Int))]))] s.heap := hP.sub (ws' := [(rd, .inr (2, [.ref rn, .ref rc, .null, .int (zI ((ct : Nat) : Int))]))]) [1] rfl
  refine vp_callSi (va_runV (rm := rm_mayEnd_null) (As := []) (rest := []) ⟨hx, hb, hml, hown, hts⟩ (c_mayEnd_null l D c rd rn rc rcw nr rv ct) (cwV 0 hts (gWV k_To_m82 k_i_Re_mayEnd k_v_Re_mayEnd k_n_Re k_c_Re_mayEnd) rfl rfl rfl (by decide +kernel) ⟨Nat.le_of_ble_eq_true rfl, Nat.le_of_ble_eq_true rfl⟩) ⟨zblind, va_recv hK hPc (ci := 2) (q0 := 0) rfl rfl, fun U hU hW => ⟨rfl, by rw [hU]; exact hPc, hKN.moved hW⟩⟩ rfl rfl hl.1 rfl (lv_room (Nat.le_of_ble_eq_true rfl)) d_To_isWhole_4 ⟨Nat.zero_le _, Nat.zero_le _⟩).run (fun r hr_1 => ?_)
  subst hr_1
  subst hQ
  exact W.zret (ty := .boolean) (v := (zB false)) hx hb hr (z_narB _) (fun t9 ht hW => ⟨_, rfl, rfl, ht⟩) (fun q hq => absurd hq List.not_mem_nil) d_To_isWhole_7

def rm_isWhole : Room := { frames := 4, cells := 0, slots := 0, locals := 85 }
set_option maxHeartbeats 4000000 in
set_option maxRecDepth 100000 in
/-- isWhole -/
theorem c_isWhole (l : Launch) (D : va_G) (c : Nat → ClassId) (x : Nat) (xm : Nat) (d : Nat) (mg : Nat → Option Nat) (mk : Nat) (rd : Nat) (rn : Nat) (rc : Nat) (rcw : Nat) (nr : Nat → Nat) (rv : Nat → Int64) (ct : Nat) (mo : Nat) (hct : ct < 1001) : Met l y_To_isWhole w_To_isWhole rm_isWhole (va_Pc [.ref x] (fun U => va_P D vwCl [(x, .inr (4, [.ref d, .ref xm, .ref rd, .int (zI ((mk : Nat) : Int))])), (rd, .inr (2, [.ref rn, .ref rc, .ref mo, .int (zI ((ct : Nat) : Int))])), (rc, .inr (3, [.ref rcw])), (rcw, .inl (c 2, 4 * 1001, .inr (.inl rv)))] U.heap ∧ zK D c U)) (vp_Si (fun r => r = (zB (zbt rv ct 255)))) 0 0 (fun _ => False) := by
  refine Met.ofW (cc := b_To_isWhole) (maxL := 1) (ret := (some .boolean)) (by decide) rfl ?_
  intro p e s m args below meth c0 s₁ B hml hv
  obtain ⟨rfl, hP, hKN⟩ := hv
  have hK := hKN.1
  have hN := hKN.2
  have hx := B.exec
  have hb := B.bytes
  have hr := B.returns
  have hts := atoms_spec (ws := w_To_isWhole) B.pre
  have hw : ∀ {w : Cond}, w ∈ ALLW → w.before _ s = true := fun h => hts _ (List.mem_cons_of_mem _ h)
  have hown : s.vm.findClass R_To = some m.cls := findClass_of_methodNamed B.named
  have hlocks := B.notSynchronized
  have hl := lv_entry ([.ref x]) (n := 1) (Nat.le_of_ble_eq_true rfl)
  rw [lg_entry_eq]
  generalize (lg_sl ([.ref x]) ++ List.replicate (1 - (lg_sl ([.ref x])).length) Slot.unset).toArray = ls at hl ⊢
  have hl : lv_has ls 1 [(0, .ref x)] := hl
  generalize hQ : MQ below _ _ _ _ _ _ = Q
  refine lv_aload_n hx hb d_To_isWhole_0 rfl (lv_at hl 0 rfl) ?_
  refine va_get (D := D) (ci := 4) (v := .ref rd) (C := R_To) (T := T_To) (N := 4) hx hb hts (fun w h => List.mem_cons_of_mem _ (inA_To w h)) hown hK hP 0 rfl rfl 2 (by decide) (hw k_To_f25) (fun _ h9 => h9) rfl d_To_isWhole_1 ?_
  have hPc : va_P D vwCl [(rd, .inr (2, [.ref rn, .ref rc, .ref mo, .int (zI ((ct : Nat) : Int))])), (rc, .inr (3, [.ref rcw])), (rcw, .inl (c 2, 4 * 1001, .inr (.inl rv)))] s.heap := hP.sub (ws' := [(rd, .inr (2, [.ref rn, .ref rc, .ref mo, .int (zI ((ct : Nat) : Int))])), (rc, .inr (3, [.ref rcw])), (rcw, .inl (c 2, 4 * 1001, .inr (.inl rv)))]) [1, 2, 3] rfl
  refine vp_callSi (va_runV (rm := rm_mayEnd) (As := []) (rest := []) ⟨hx, hb, hml, hown, hts⟩ (c_mayEnd l D c rd rn rc rcw nr rv ct mo hct) (cwV 0 hts (gWV k_To_m82 k_i_Re_mayEnd k_v_Re_mayEnd k_n_Re k_c_Re_mayEnd) rfl rfl rfl (by decide +kernel) ⟨Nat.le_of_ble_eq_true rfl, Nat.le_of_ble_eq_true rfl⟩) ⟨zblind, va_recv hK hPc (ci := 2) (q0 := 0) rfl rfl, fun U hU hW => ⟨rfl, by rw [hU]; exact hPc, hKN.moved hW⟩⟩ rfl rfl hl.1 rfl (lv_room (Nat.le_of_ble_eq_true rfl)) d_To_isWhole_4 ⟨Nat.zero_le _, Nat.zero_le _⟩).run (fun r hr_1 => ?_)
  subst hr_1
  subst hQ
  exact W.zret (ty := .boolean) (v := (zB (zbt rv ct 255))) hx hb hr (z_narB _) (fun t9 ht hW => ⟨_, rfl, rfl, ht⟩) (fun q hq => absurd hq List.not_mem_nil) d_To_isWhole_7

def rm_can_null : Room := { frames := 1, cells := 0, slots := 0, locals := 21 }
set_option maxHeartbeats 4000000 in
set_option maxRecDepth 100000 in
/-- can_null -/
theorem c_can_null (l : Launch) (D : va_G) (c : Nat → ClassId) (x : Nat) (xm : Nat) (d : Nat) (mg : Nat → Option Nat) (mk : Nat) (rd : Nat) (rn : Nat) (rc : Nat) (rcw : Nat) (nr : Nat → Nat) (rv : Nat → Int64) (ct : Nat) (y : Int)  : Met l y_To_can w_To_can rm_can_null (va_Pc [.ref x, .int (zI y)] (fun U => va_P D vwCl [(x, .inr (4, [.ref d, .ref xm, .ref rd, .int (zI ((mk : Nat) : Int))])), (rd, .inr (2, [.ref rn, .ref rc, .null, .int (zI ((ct : Nat) : Int))]))] U.heap ∧ zK D c U)) (vp_Si (fun r => r = (zB false))) 0 0 (fun _ => False) := by
  refine Met.ofW (cc := b_To_can) (maxL := 2) (ret := (some .boolean)) (by decide) rfl ?_
  intro p e s m args below meth c0 s₁ B hml hv
  obtain ⟨rfl, hP, hKN⟩ := hv
  have hK := hKN.1
  have hN := hKN.2
  have hx := B.exec
  have hb := B.bytes
  have hr := B.returns
  have hts := atoms_spec (ws := w_To_can) B.pre
  have hw : ∀ {w : Cond}, w ∈ ALLW → w.before _ s = true := fun h => hts _ (List.mem_cons_of_mem _ h)
  have hown : s.vm.findClass R_To = some m.cls := findClass_of_methodNamed B.named
  have hlocks := B.notSynchronized
  have hl := lv_entry ([.ref x, .int (zI y)]) (n := 2) (Nat.le_of_ble_eq_true rfl)
  rw [lg_entry_eq]
  generalize (lg_sl ([.ref x, .int (zI y)]) ++ List.replicate (2 - (lg_sl ([.ref x, .int (zI y)])).length) Slot.unset).toArray = ls at hl ⊢
  have hl : lv_has ls 2 [(0, .ref x), (1, .int (zI y))] := hl
  generalize hQ : MQ below _ _ _ _ _ _ = Q
  refine lv_aload_n hx hb d_To_can_0 rfl (lv_at hl 0 rfl) ?_
  refine va_get (D := D) (ci := 4) (v := .ref rd) (C := R_To) (T := T_To) (N := 4) hx hb hts (fun w h => List.mem_cons_of_mem _ (inA_To w h)) hown hK hP 0 rfl rfl 2 (by decide) (hw k_To_f25) (fun _ h9 => h9) rfl d_To_can_1 ?_
  refine lv_iload_n hx hb d_To_can_4 rfl (lv_at hl 1 rfl) ?_
  have hPc : va_P D vwCl [(rd, .inr (2, [.ref rn, .ref rc, .null, .int (zI ((ct : Nat) : Int))]))] s.heap := hP.sub (ws' := [(rd, .inr (2, [.ref rn, .ref rc, .null, .int (zI ((ct : Nat) : Int))]))]) [1] rfl
  refine vp_callSi (va_runV (rm := rm_mayTake_null) (As := [.int (zI y)]) (rest := []) ⟨hx, hb, hml, hown, hts⟩ (c_mayTake_null l D c rd rn rc rcw nr rv ct y) (cwV 1 hts (gWV k_To_m85 k_i_Re_mayTake k_v_Re_mayTake k_n_Re k_c_Re_mayTake) rfl rfl rfl (by decide +kernel) ⟨Nat.le_of_ble_eq_true rfl, Nat.le_of_ble_eq_true rfl⟩) ⟨zblind, va_recv hK hPc (ci := 2) (q0 := 0) rfl rfl, fun U hU hW => ⟨rfl, by rw [hU]; exact hPc, hKN.moved hW⟩⟩ rfl rfl hl.1 rfl (lv_room (Nat.le_of_ble_eq_true rfl)) d_To_can_5 ⟨Nat.zero_le _, Nat.zero_le _⟩).run (fun r hr_1 => ?_)
  subst hr_1
  subst hQ
  exact W.zret (ty := .boolean) (v := (zB false)) hx hb hr (z_narB _) (fun t9 ht hW => ⟨_, rfl, rfl, ht⟩) (fun q hq => absurd hq List.not_mem_nil) d_To_can_8

def rm_can : Room := { frames := 5, cells := 0, slots := 0, locals := 110 }
set_option maxHeartbeats 4000000 in
set_option maxRecDepth 100000 in
/-- can -/
theorem c_can (l : Launch) (D : va_G) (c : Nat → ClassId) (x : Nat) (xm : Nat) (d : Nat) (mg : Nat → Option Nat) (mk : Nat) (rd : Nat) (rn : Nat) (rc : Nat) (rcw : Nat) (nr : Nat → Nat) (rv : Nat → Int64) (ct : Nat) (mo : Nat) (me : Nat) (ms : Nat) (msw : Nat) (en : Nat → Nat) (ne : Nat) (mf : Nat → Int64) (dt : Bool) (y : Int) (hne : ne ≤ 255) (hen : ∀ j, j < ne → en j < 300000) (hct : ct < 1001) (hx_ : -2147483648 ≤ y ∧ y < 2147483648) : Met l y_To_can w_To_can rm_can (va_Pc [.ref x, .int (zI y)] (fun U => va_P D vwCl [(x, .inr (4, [.ref d, .ref xm, .ref rd, .int (zI ((mk : Nat) : Int))])), (rd, .inr (2, [.ref rn, .ref rc, .ref mo, .int (zI ((ct : Nat) : Int))])), (rc, .inr (3, [.ref rcw])), (rcw, .inl (c 2, 4 * 1001, .inr (.inl rv))), (mo, .inr (1, [.ref me, .ref ms, .int (zB dt)])), (me, .inl (c 0, ne, .inl (fun j => zI ((en j : Nat) : Int))))] U.heap ∧ zK D c U)) (vp_Si (fun r => r = (zB (hnm rv en ct y ne)))) 0 0 (fun _ => False) := by
  refine Met.ofW (cc := b_To_can) (maxL := 2) (ret := (some .boolean)) (by decide) rfl ?_
  intro p e s m args below meth c0 s₁ B hml hv
  obtain ⟨rfl, hP, hKN⟩ := hv
  have hK := hKN.1
  have hN := hKN.2
  have hx := B.exec
  have hb := B.bytes
  have hr := B.returns
  have hts := atoms_spec (ws := w_To_can) B.pre
  have hw : ∀ {w : Cond}, w ∈ ALLW → w.before _ s = true := fun h => hts _ (List.mem_cons_of_mem _ h)
  have hown : s.vm.findClass R_To = some m.cls := findClass_of_methodNamed B.named
  have hlocks := B.notSynchronized
  have hl := lv_entry ([.ref x, .int (zI y)]) (n := 2) (Nat.le_of_ble_eq_true rfl)
  rw [lg_entry_eq]
  generalize (lg_sl ([.ref x, .int (zI y)]) ++ List.replicate (2 - (lg_sl ([.ref x, .int (zI y)])).length) Slot.unset).toArray = ls at hl ⊢
  have hl : lv_has ls 2 [(0, .ref x), (1, .int (zI y))] := hl
  generalize hQ : MQ below _ _ _ _ _ _ = Q
  refine lv_aload_n hx hb d_To_can_0 rfl (lv_at hl 0 rfl) ?_
  refine va_get (D := D) (ci := 4) (v := .ref rd) (C := R_To) (T := T_To) (N := 4) hx hb hts (fun w h => List.mem_cons_of_mem _ (inA_To w h)) hown hK hP 0 rfl rfl 2 (by decide) (hw k_To_f25) (fun _ h9 => h9) rfl d_To_can_1 ?_
  refine lv_iload_n hx hb d_To_can_4 rfl (lv_at hl 1 rfl) ?_
  have hPc : va_P D vwCl [(rd, .inr (2, [.ref rn, .ref rc, .ref mo, .int (zI ((ct : Nat) : Int))])), (rc, .inr (3, [.ref rcw])), (rcw, .inl (c 2, 4 * 1001, .inr (.inl rv))), (mo, .inr (1, [.ref me, .ref ms, .int (zB dt)])), (me, .inl (c 0, ne, .inl (fun j => zI ((en j : Nat) : Int))))] s.heap := hP.sub (ws' := [(rd, .inr (2, [.ref rn, .ref rc, .ref mo, .int (zI ((ct : Nat) : Int))])), (rc, .inr (3, [.ref rcw])), (rcw, .inl (c 2, 4 * 1001, .inr (.inl rv))), (mo, .inr (1, [.ref me, .ref ms, .int (zB dt)])), (me, .inl (c 0, ne, .inl (fun j => zI ((en j : Nat) : Int))))]) [1, 2, 3, 4, 5] rfl
  refine vp_callSi (va_runV (rm := rm_mayTake) (As := [.int (zI y)]) (rest := []) ⟨hx, hb, hml, hown, hts⟩ (c_mayTake l D c rd rn rc rcw nr rv ct mo me ms msw en ne mf dt y hne hen hct hx_) (cwV 1 hts (gWV k_To_m85 k_i_Re_mayTake k_v_Re_mayTake k_n_Re k_c_Re_mayTake) rfl rfl rfl (by decide +kernel) ⟨Nat.le_of_ble_eq_true rfl, Nat.le_of_ble_eq_true rfl⟩) ⟨zblind, va_recv hK hPc (ci := 2) (q0 := 0) rfl rfl, fun U hU hW => ⟨rfl, by rw [hU]; exact hPc, hKN.moved hW⟩⟩ rfl rfl hl.1 rfl (lv_room (Nat.le_of_ble_eq_true rfl)) d_To_can_5 ⟨Nat.zero_le _, Nat.zero_le _⟩).run (fun r hr_1 => ?_)
  subst hr_1
  subst hQ
  exact W.zret (ty := .boolean) (v := (zB (hnm rv en ct y ne))) hx hb hr (z_narB _) (fun t9 ht hW => ⟨_, rfl, rfl, ht⟩) (fun q hq => absurd hq List.not_mem_nil) d_To_can_8

def rm_next_null : Room := { frames := 1, cells := 0, slots := 0, locals := 21 }
set_option maxHeartbeats 4000000 in
set_option maxRecDepth 100000 in
/-- next_null -/
theorem c_next_null (l : Launch) (D : va_G) (c : Nat → ClassId) (x : Nat) (xm : Nat) (d : Nat) (mg : Nat → Option Nat) (mk : Nat) (rd : Nat) (rn : Nat) (rc : Nat) (rcw : Nat) (nr : Nat → Nat) (rv : Nat → Int64) (ct : Nat) (y : Int)  : Met l y_To_next w_To_next rm_next_null (va_Pc [.ref x, .int (zI y)] (fun U => va_P D vwCl [(x, .inr (4, [.ref d, .ref xm, .ref rd, .int (zI ((mk : Nat) : Int))])), (rd, .inr (2, [.ref rn, .ref rc, .null, .int (zI ((ct : Nat) : Int))]))] U.heap ∧ zK D c U)) (vp_Si (fun r => r = (zI (-1)))) 0 0 (fun _ => False) := by
  refine Met.ofW (cc := b_To_next) (maxL := 2) (ret := (some .int)) (by decide) rfl ?_
  intro p e s m args below meth c0 s₁ B hml hv
  obtain ⟨rfl, hP, hKN⟩ := hv
  have hK := hKN.1
  have hN := hKN.2
  have hx := B.exec
  have hb := B.bytes
  have hr := B.returns
  have hts := atoms_spec (ws := w_To_next) B.pre
  have hw : ∀ {w : Cond}, w ∈ ALLW → w.before _ s = true := fun h => hts _ (List.mem_cons_of_mem _ h)
  have hown : s.vm.findClass R_To = some m.cls := findClass_of_methodNamed B.named
  have hlocks := B.notSynchronized
  have hl := lv_entry ([.ref x, .int (zI y)]) (n := 2) (Nat.le_of_ble_eq_true rfl)
  rw [lg_entry_eq]
  generalize (lg_sl ([.ref x, .int (zI y)]) ++ List.replicate (2 - (lg_sl ([.ref x, .int (zI y)])).length) Slot.unset).toArray = ls at hl ⊢
  have hl : lv_has ls 2 [(0, .ref x), (1, .int (zI y))] := hl
  generalize hQ : MQ below _ _ _ _ _ _ = Q
  refine lv_aload_n hx hb d_To_next_0 rfl (lv_at hl 0 rfl) ?_
  refine va_get (D := D) (ci := 4) (v := .ref rd) (C := R_To) (T := T_To) (N := 4) hx hb hts (fun w h => List.mem_cons_of_mem _ (inA_To w h)) hown hK hP 0 rfl rfl 2 (by decide) (hw k_To_f25) (fun _ h9 => h9) rfl d_To_next_1 ?_
  refine lv_iload_n hx hb d_To_next_4 rfl (lv_at hl 1 rfl) ?_
  have hPc : va_P D vwCl [(rd, .inr (2, [.ref rn, .ref rc, .null, .int (zI ((ct : Nat) : Int))]))] s.heap := hP.sub (ws' := [(rd, .inr (2, [.ref rn, .ref rc, .null, .int (zI ((ct : Nat) : Int))]))]) [1] rfl
  refine vp_callSi (va_runV (rm := rm_offer_null) (As := [.int (zI y)]) (rest := []) ⟨hx, hb, hml, hown, hts⟩ (c_offer_null l D c rd rn rc rcw nr rv ct y) (cwV 1 hts (gWV k_To_m88 k_i_Re_offer k_v_Re_offer k_n_Re k_c_Re_offer) rfl rfl rfl (by decide +kernel) ⟨Nat.le_of_ble_eq_true rfl, Nat.le_of_ble_eq_true rfl⟩) ⟨zblind, va_recv hK hPc (ci := 2) (q0 := 0) rfl rfl, fun U hU hW => ⟨rfl, by rw [hU]; exact hPc, hKN.moved hW⟩⟩ rfl rfl hl.1 rfl (lv_room (Nat.le_of_ble_eq_true rfl)) d_To_next_5 ⟨Nat.zero_le _, Nat.zero_le _⟩).run (fun r hr_1 => ?_)
  subst hr_1
  subst hQ
  exact W.iret (v := (zI (-1))) hx hb hr (fun t9 ht hW => ⟨_, rfl, rfl, ht⟩) (fun q hq => absurd hq List.not_mem_nil) d_To_next_8

def rm_next : Room := { frames := 5, cells := 0, slots := 0, locals := 113 }
set_option maxHeartbeats 4000000 in
set_option maxRecDepth 100000 in
/-- next -/
theorem c_next (l : Launch) (D : va_G) (c : Nat → ClassId) (x : Nat) (xm : Nat) (d : Nat) (mg : Nat → Option Nat) (mk : Nat) (rd : Nat) (rn : Nat) (rc : Nat) (rcw : Nat) (nr : Nat → Nat) (rv : Nat → Int64) (ct : Nat) (mo : Nat) (me : Nat) (ms : Nat) (msw : Nat) (en : Nat → Nat) (ne : Nat) (mf : Nat → Int64) (dt : Bool) (y : Int) (hne : ne ≤ 255) (hen : ∀ j, j < ne → en j < 300000) (hct : ct < 1001) (hx_ : -2147483648 ≤ y ∧ y < 2147483648) : Met l y_To_next w_To_next rm_next (va_Pc [.ref x, .int (zI y)] (fun U => va_P D vwCl [(x, .inr (4, [.ref d, .ref xm, .ref rd, .int (zI ((mk : Nat) : Int))])), (rd, .inr (2, [.ref rn, .ref rc, .ref mo, .int (zI ((ct : Nat) : Int))])), (rc, .inr (3, [.ref rcw])), (rcw, .inl (c 2, 4 * 1001, .inr (.inl rv))), (mo, .inr (1, [.ref me, .ref ms, .int (zB dt)])), (me, .inl (c 0, ne, .inl (fun j => zI ((en j : Nat) : Int))))] U.heap ∧ zK D c U)) (vp_Si (fun r => r = (zI (naR rv en ct y ne)))) 0 0 (fun _ => False) := by
  refine Met.ofW (cc := b_To_next) (maxL := 2) (ret := (some .int)) (by decide) rfl ?_
  intro p e s m args below meth c0 s₁ B hml hv
  obtain ⟨rfl, hP, hKN⟩ := hv
  have hK := hKN.1
  have hN := hKN.2
  have hx := B.exec
  have hb := B.bytes
  have hr := B.returns
  have hts := atoms_spec (ws := w_To_next) B.pre
  have hw : ∀ {w : Cond}, w ∈ ALLW → w.before _ s = true := fun h => hts _ (List.mem_cons_of_mem _ h)
  have hown : s.vm.findClass R_To = some m.cls := findClass_of_methodNamed B.named
  have hlocks := B.notSynchronized
  have hl := lv_entry ([.ref x, .int (zI y)]) (n := 2) (Nat.le_of_ble_eq_true rfl)
  rw [lg_entry_eq]
  generalize (lg_sl ([.ref x, .int (zI y)]) ++ List.replicate (2 - (lg_sl ([.ref x, .int (zI y)])).length) Slot.unset).toArray = ls at hl ⊢
  have hl : lv_has ls 2 [(0, .ref x), (1, .int (zI y))] := hl
  generalize hQ : MQ below _ _ _ _ _ _ = Q
  refine lv_aload_n hx hb d_To_next_0 rfl (lv_at hl 0 rfl) ?_
  refine va_get (D := D) (ci := 4) (v := .ref rd) (C := R_To) (T := T_To) (N := 4) hx hb hts (fun w h => List.mem_cons_of_mem _ (inA_To w h)) hown hK hP 0 rfl rfl 2 (by decide) (hw k_To_f25) (fun _ h9 => h9) rfl d_To_next_1 ?_
  refine lv_iload_n hx hb d_To_next_4 rfl (lv_at hl 1 rfl) ?_
  have hPc : va_P D vwCl [(rd, .inr (2, [.ref rn, .ref rc, .ref mo, .int (zI ((ct : Nat) : Int))])), (rc, .inr (3, [.ref rcw])), (rcw, .inl (c 2, 4 * 1001, .inr (.inl rv))), (mo, .inr (1, [.ref me, .ref ms, .int (zB dt)])), (me, .inl (c 0, ne, .inl (fun j => zI ((en j : Nat) : Int))))] s.heap := hP.sub (ws' := [(rd, .inr (2, [.ref rn, .ref rc, .ref mo, .int (zI ((ct : Nat) : Int))])), (rc, .inr (3, [.ref rcw])), (rcw, .inl (c 2, 4 * 1001, .inr (.inl rv))), (mo, .inr (1, [.ref me, .ref ms, .int (zB dt)])), (me, .inl (c 0, ne, .inl (fun j => zI ((en j : Nat) : Int))))]) [1, 2, 3, 4, 5] rfl
  refine vp_callSi (va_runV (rm := rm_offer) (As := [.int (zI y)]) (rest := []) ⟨hx, hb, hml, hown, hts⟩ (c_offer l D c rd rn rc rcw nr rv ct mo me ms msw en ne mf dt y hne hen hct hx_) (cwV 1 hts (gWV k_To_m88 k_i_Re_offer k_v_Re_offer k_n_Re k_c_Re_offer) rfl rfl rfl (by decide +kernel) ⟨Nat.le_of_ble_eq_true rfl, Nat.le_of_ble_eq_true rfl⟩) ⟨zblind, va_recv hK hPc (ci := 2) (q0 := 0) rfl rfl, fun U hU hW => ⟨rfl, by rw [hU]; exact hPc, hKN.moved hW⟩⟩ rfl rfl hl.1 rfl (lv_room (Nat.le_of_ble_eq_true rfl)) d_To_next_5 ⟨Nat.zero_le _, Nat.zero_le _⟩).run (fun r hr_1 => ?_)
  subst hr_1
  subst hQ
  exact W.iret (v := (zI (naR rv en ct y ne))) hx hb hr (fun t9 ht hW => ⟨_, rfl, rfl, ht⟩) (fun q hq => absurd hq List.not_mem_nil) d_To_next_8

def rm_back_null : Room := { frames := 1, cells := 0, slots := 0, locals := 21 }
set_option maxHeartbeats 4000000 in
set_option maxRecDepth 100000 in
/-- back_null -/
theorem c_back_null (l : Launch) (D : va_G) (c : Nat → ClassId) (x : Nat) (xm : Nat) (d : Nat) (mg : Nat → Option Nat) (mk : Nat) (rd : Nat) (rn : Nat) (rc : Nat) (rcw : Nat) (nr : Nat → Nat) (rv : Nat → Int64) (ct : Nat)  : Met l y_To_back w_To_back rm_back_null (va_Pc [.ref x] (fun U => va_P D vwCl [(x, .inr (4, [.ref d, .ref xm, .ref rd, .int (zI ((mk : Nat) : Int))])), (rd, .inr (2, [.ref rn, .ref rc, .null, .int (zI ((ct : Nat) : Int))]))] U.heap ∧ zK D c U)) (vp_Si (fun r => r = (zI (-1)))) 0 0 (fun _ => False) := by
  refine Met.ofW (cc := b_To_back) (maxL := 1) (ret := (some .int)) (by decide) rfl ?_
  intro p e s m args below meth c0 s₁ B hml hv
  obtain ⟨rfl, hP, hKN⟩ := hv
  have hK := hKN.1
  have hN := hKN.2
  have hx := B.exec
  have hb := B.bytes
  have hr := B.returns
  have hts := atoms_spec (ws := w_To_back) B.pre
  have hw : ∀ {w : Cond}, w ∈ ALLW → w.before _ s = true := fun h => hts _ (List.mem_cons_of_mem _ h)
  have hown : s.vm.findClass R_To = some m.cls := findClass_of_methodNamed B.named
  have hlocks := B.notSynchronized
  have hl := lv_entry ([.ref x]) (n := 1) (Nat.le_of_ble_eq_true rfl)
  rw [lg_entry_eq]
  generalize (lg_sl ([.ref x]) ++ List.replicate (1 - (lg_sl ([.ref x])).length) Slot.unset).toArray = ls at hl ⊢
  have hl : lv_has ls 1 [(0, .ref x)] := hl
  generalize hQ : MQ below _ _ _ _ _ _ = Q
  refine lv_aload_n hx hb d_To_back_0 rfl (lv_at hl 0 rfl) ?_
  refine va_get (D := D) (ci := 4) (v := .ref rd) (C := R_To) (T := T_To) (N := 4) hx hb hts (fun w h => List.mem_cons_of_mem _ (inA_To w h)) hown hK hP 0 rfl rfl 2 (by decide) (hw k_To_f25) (fun _ h9 => h9) rfl d_To_back_1 ?_
  have hPc : va_P D vwCl [(rd, .inr (2, [.ref rn, .ref rc, .null, .int (zI ((ct : Nat) : Int))]))] s.heap := hP.sub (ws' := [(rd, .inr (2, [.ref rn, .ref rc, .null, .int (zI ((ct : Nat) : Int))]))]) [1] rfl
  refine vp_callSi (va_runV (rm := rm_takeBack_null) (As := []) (rest := []) ⟨hx, hb, hml, hown, hts⟩ (c_takeBack_null l D c rd rn rc rcw nr rv ct) (cwV 0 hts (gWV k_To_m92 k_i_Re_takeBack k_v_Re_takeBack k_n_Re k_c_Re_takeBack) rfl rfl rfl (by decide +kernel) ⟨Nat.le_of_ble_eq_true rfl, Nat.le_of_ble_eq_true rfl⟩) ⟨zblind, va_recv hK hPc (ci := 2) (q0 := 0) rfl rfl, fun U hU hW => ⟨rfl, by rw [hU]; exact hPc, hKN.moved hW⟩⟩ rfl rfl hl.1 rfl (lv_room (Nat.le_of_ble_eq_true rfl)) d_To_back_4 ⟨Nat.zero_le _, Nat.zero_le _⟩).run (fun r hr_1 => ?_)
  subst hr_1
  subst hQ
  exact W.iret (v := (zI (-1))) hx hb hr (fun t9 ht hW => ⟨_, rfl, rfl, ht⟩) (fun q hq => absurd hq List.not_mem_nil) d_To_back_7

def rm_back_none : Room := { frames := 1, cells := 0, slots := 0, locals := 21 }
set_option maxHeartbeats 4000000 in
set_option maxRecDepth 100000 in
/-- back_none -/
theorem c_back_none (l : Launch) (D : va_G) (c : Nat → ClassId) (x : Nat) (xm : Nat) (d : Nat) (mg : Nat → Option Nat) (mk : Nat) (rd : Nat) (rn : Nat) (rc : Nat) (rcw : Nat) (nr : Nat → Nat) (rv : Nat → Int64) (mo : Nat)  : Met l y_To_back w_To_back rm_back_none (va_Pc [.ref x] (fun U => va_P D vwCl [(x, .inr (4, [.ref d, .ref xm, .ref rd, .int (zI ((mk : Nat) : Int))])), (rd, .inr (2, [.ref rn, .ref rc, .ref mo, .int (zI ((0 : Nat) : Int))]))] U.heap ∧ zK D c U)) (vp_Si (fun r => r = (zI (-1)))) 0 0 (fun _ => False) := by
  refine Met.ofW (cc := b_To_back) (maxL := 1) (ret := (some .int)) (by decide) rfl ?_
  intro p e s m args below meth c0 s₁ B hml hv
  obtain ⟨rfl, hP, hKN⟩ := hv
  have hK := hKN.1
  have hN := hKN.2
  have hx := B.exec
  have hb := B.bytes
  have hr := B.returns
  have hts := atoms_spec (ws := w_To_back) B.pre
  have hw : ∀ {w : Cond}, w ∈ ALLW → w.before _ s = true := fun h => hts _ (List.mem_cons_of_mem _ h)
  have hown : s.vm.findClass R_To = some m.cls := findClass_of_methodNamed B.named
  have hlocks := B.notSynchronized
  have hl := lv_entry ([.ref x]) (n := 1) (Nat.le_of_ble_eq_true rfl)
  rw [lg_entry_eq]
  generalize (lg_sl ([.ref x]) ++ List.replicate (1 - (lg_sl ([.ref x])).length) Slot.unset).toArray = ls at hl ⊢
  have hl : lv_has ls 1 [(0, .ref x)] := hl
  generalize hQ : MQ below _ _ _ _ _ _ = Q
  refine lv_aload_n hx hb d_To_back_0 rfl (lv_at hl 0 rfl) ?_
  refine va_get (D := D) (ci := 4) (v := .ref rd) (C := R_To) (T := T_To) (N := 4) hx hb hts (fun w h => List.mem_cons_of_mem _ (inA_To w h)) hown hK hP 0 rfl rfl 2 (by decide) (hw k_To_f25) (fun _ h9 => h9) rfl d_To_back_1 ?_
  have hPc : va_P D vwCl [(rd, .inr (2, [.ref rn, .ref rc, .ref mo, .int (zI ((0 : Nat) : Int))]))] s.heap := hP.sub (ws' := [(rd, .inr (2, [.ref rn, .ref rc, .ref mo, .int (zI ((0 : Nat) : Int))]))]) [1] rfl
  refine vp_callSi (va_runV (rm := rm_takeBack_none) (As := []) (rest := []) ⟨hx, hb, hml, hown, hts⟩ (c_takeBack_none l D c rd rn rc rcw nr rv mo) (cwV 0 hts (gWV k_To_m92 k_i_Re_takeBack k_v_Re_takeBack k_n_Re k_c_Re_takeBack) rfl rfl rfl (by decide +kernel) ⟨Nat.le_of_ble_eq_true rfl, Nat.le_of_ble_eq_true rfl⟩) ⟨zblind, va_recv hK hPc (ci := 2) (q0 := 0) rfl rfl, fun U hU hW => ⟨rfl, by rw [hU]; exact hPc, hKN.moved hW⟩⟩ rfl rfl hl.1 rfl (lv_room (Nat.le_of_ble_eq_true rfl)) d_To_back_4 ⟨Nat.zero_le _, Nat.zero_le _⟩).run (fun r hr_1 => ?_)
  subst hr_1
  subst hQ
  exact W.iret (v := (zI (-1))) hx hb hr (fun t9 ht hW => ⟨_, rfl, rfl, ht⟩) (fun q hq => absurd hq List.not_mem_nil) d_To_back_7

def rm_back : Room := { frames := 1, cells := 0, slots := 0, locals := 21 }
set_option maxHeartbeats 4000000 in
set_option maxRecDepth 100000 in
/-- back -/
theorem c_back (l : Launch) (D : va_G) (c : Nat → ClassId) (x : Nat) (xm : Nat) (d : Nat) (mg : Nat → Option Nat) (mk : Nat) (rd : Nat) (rn : Nat) (rc : Nat) (rcw : Nat) (nr : Nat → Nat) (rv : Nat → Int64) (ct : Nat) (mo : Nat) (hct : ct < 1000) : Met l y_To_back w_To_back rm_back (va_Pc [.ref x] (fun U => (va_P D vwCl [(x, .inr (4, [.ref d, .ref xm, .ref rd, .int (zI ((mk : Nat) : Int))])), (rd, .inr (2, [.ref rn, .ref rc, .ref mo, .int (zI ((ct + 1 : Nat) : Int))])), (rn, .inl (c 0, 1000, .inl (fun j => zI ((nr j : Nat) : Int))))] U.heap ∧ va_D (fun _ => True) [(x, .inr (4, [.ref d, .ref xm, .ref rd, .int (zI ((mk : Nat) : Int))])), (rd, .inr (2, [.ref rn, .ref rc, .ref mo, .int (zI ((ct + 1 : Nat) : Int))])), (rn, .inl (c 0, 1000, .inl (fun j => zI ((nr j : Nat) : Int))))]) ∧ zK D c U)) (va_Qi (fun (r : Int32) (u : Unit) => r = (zI ((nr ct : Nat) : Int)) ∧ True) (fun (u : Unit) t9 => va_P D vwCl [(x, .inr (4, [.ref d, .ref xm, .ref rd, .int (zI ((mk : Nat) : Int))])), (rd, .inr (2, [.ref rn, .ref rc, .ref mo, .int (zI ((ct : Nat) : Int))])), (rn, .inl (c 0, 1000, .inl (fun j => zI ((nr j : Nat) : Int))))] t9.heap) (zA [(x, .inr (4, [.ref d, .ref xm, .ref rd, .int (zI ((mk : Nat) : Int))])), (rd, .inr (2, [.ref rn, .ref rc, .ref mo, .int (zI ((ct + 1 : Nat) : Int))])), (rn, .inl (c 0, 1000, .inl (fun j => zI ((nr j : Nat) : Int))))])) 0 0 (zA [(x, .inr (4, [.ref d, .ref xm, .ref rd, .int (zI ((mk : Nat) : Int))])), (rd, .inr (2, [.ref rn, .ref rc, .ref mo, .int (zI ((ct + 1 : Nat) : Int))])), (rn, .inl (c 0, 1000, .inl (fun j => zI ((nr j : Nat) : Int))))]) := by
  refine Met.ofW (cc := b_To_back) (maxL := 1) (ret := (some .int)) (by decide) rfl ?_
  intro p e s m args below meth c0 s₁ B hml hv
  obtain ⟨rfl, ⟨hP, hD0⟩, hKN⟩ := hv
  have hK := hKN.1
  have hN := hKN.2
  have hx := B.exec
  have hb := B.bytes
  have hr := B.returns
  have hts := atoms_spec (ws := w_To_back) B.pre
  have hw : ∀ {w : Cond}, w ∈ ALLW → w.before _ s = true := fun h => hts _ (List.mem_cons_of_mem _ h)
  have hown : s.vm.findClass R_To = some m.cls := findClass_of_methodNamed B.named
  have hlocks := B.notSynchronized
  have hD : va_D (zA [(x, .inr (4, [.ref d, .ref xm, .ref rd, .int (zI ((mk : Nat) : Int))])), (rd, .inr (2, [.ref rn, .ref rc, .ref mo, .int (zI ((ct + 1 : Nat) : Int))])), (rn, .inl (c 0, 1000, .inl (fun j => zI ((nr j : Nat) : Int))))]) [(x, .inr (4, [.ref d, .ref xm, .ref rd, .int (zI ((mk : Nat) : Int))])), (rd, .inr (2, [.ref rn, .ref rc, .ref mo, .int (zI ((ct + 1 : Nat) : Int))])), (rn, .inl (c 0, 1000, .inl (fun j => zI ((nr j : Nat) : Int))))] := ⟨hD0.1, fun k q h => List.mem_map.mpr ⟨q, List.mem_of_getElem? h, rfl⟩⟩
  generalize hAe : zA [(x, .inr (4, [.ref d, .ref xm, .ref rd, .int (zI ((mk : Nat) : Int))])), (rd, .inr (2, [.ref rn, .ref rc, .ref mo, .int (zI ((ct + 1 : Nat) : Int))])), (rn, .inl (c 0, 1000, .inl (fun j => zI ((nr j : Nat) : Int))))] = A at hD ⊢
  have hS : va_S A s.heap s.heap [] := va_S.rf
  have hP : va_P D vwCl [(x, .inr (4, [.ref d, .ref xm, .ref rd, .int (zI ((mk : Nat) : Int))])), (rd, .inr (2, [.ref rn, .ref rc, .ref mo, .int (zI ((ct + 1 : Nat) : Int))])), (rn, .inl (c 0, 1000, .inl (fun j => zI ((nr j : Nat) : Int))))] s.heap := hP
  have hl := lv_entry ([.ref x]) (n := 1) (Nat.le_of_ble_eq_true rfl)
  rw [lg_entry_eq]
  generalize (lg_sl ([.ref x]) ++ List.replicate (1 - (lg_sl ([.ref x])).length) Slot.unset).toArray = ls at hl ⊢
  have hl : lv_has ls 1 [(0, .ref x)] := hl
  generalize hQ : MQ below _ _ _ _ _ _ = Q
  refine lv_aload_n hx hb d_To_back_0 rfl (lv_at hl 0 rfl) ?_
  refine va_get (D := D) (ci := 4) (v := .ref rd) (C := R_To) (T := T_To) (N := 4) hx hb hts (fun w h => List.mem_cons_of_mem _ (inA_To w h)) hown hK hP 0 rfl rfl 2 (by decide) (hw k_To_f25) (fun _ h9 => h9) rfl d_To_back_1 ?_
  have hPc : va_P D vwCl [(rd, .inr (2, [.ref rn, .ref rc, .ref mo, .int (zI ((ct + 1 : Nat) : Int))])), (rn, .inl (c 0, 1000, .inl (fun j => zI ((nr j : Nat) : Int))))] s.heap := hP.sub (ws' := [(rd, .inr (2, [.ref rn, .ref rc, .ref mo, .int (zI ((ct + 1 : Nat) : Int))])), (rn, .inl (c 0, 1000, .inl (fun j => zI ((nr j : Nat) : Int))))]) [1, 2] rfl
  have hDc : va_D A [(rd, .inr (2, [.ref rn, .ref rc, .ref mo, .int (zI ((ct + 1 : Nat) : Int))])), (rn, .inl (c 0, 1000, .inl (fun j => zI ((nr j : Nat) : Int))))] := hD.sub (ws' := [(rd, .inr (2, [.ref rn, .ref rc, .ref mo, .int (zI ((ct + 1 : Nat) : Int))])), (rn, .inl (c 0, 1000, .inl (fun j => zI ((nr j : Nat) : Int))))]) [1, 2] (by decide) rfl
  have hDt : va_D (fun _ => True) [(rd, .inr (2, [.ref rn, .ref rc, .ref mo, .int (zI ((ct + 1 : Nat) : Int))])), (rn, .inl (c 0, 1000, .inl (fun j => zI ((nr j : Nat) : Int))))] := hDc.weaken (fun _ _ _ _ => trivial)
  refine z_calli (S := Unit) (w1 := fun u => [(rd, .inr (2, [.ref rn, .ref rc, .ref mo, .int (zI ((ct : Nat) : Int))])), (rn, .inl (c 0, 1000, .inl (fun j => zI ((nr j : Nat) : Int))))]) (post := fun r u => r = (zI ((nr ct : Nat) : Int)) ∧ True) (wc := [(rd, .inr (2, [.ref rn, .ref rc, .ref mo, .int (zI ((ct + 1 : Nat) : Int))])), (rn, .inl (c 0, 1000, .inl (fun j => zI ((nr j : Nat) : Int))))]) [1, 2] rfl (fun _ => rfl) hP hD hS (va_runV (rm := rm_takeBack) (As := []) (rest := []) ⟨hx, hb, hml, hown, hts⟩ (c_takeBack l D c rd rn rc rcw nr rv ct mo hct) (cwV 0 hts (gWV k_To_m92 k_i_Re_takeBack k_v_Re_takeBack k_n_Re k_c_Re_takeBack) rfl rfl rfl (by decide +kernel) ⟨Nat.le_of_ble_eq_true rfl, Nat.le_of_ble_eq_true rfl⟩) ⟨zblindW, va_recv hK hPc (ci := 2) (q0 := 0) rfl rfl, fun U hU hW => ⟨rfl, ⟨by rw [hU]; exact hPc, hDt⟩, hKN.moved hW⟩⟩ rfl rfl hl.1 rfl (lv_room (Nat.le_of_ble_eq_true rfl)) d_To_back_4 ⟨Nat.zero_le _, Nat.zero_le _⟩) (fun r u H locs hp_1 hP hD hS => ?_)
  obtain ⟨hr_1, hp_1⟩ := hp_1
  subst hr_1
  have hP : va_P D vwCl [(x, .inr (4, [.ref d, .ref xm, .ref rd, .int (zI ((mk : Nat) : Int))])), (rd, .inr (2, [.ref rn, .ref rc, .ref mo, .int (zI ((ct : Nat) : Int))])), (rn, .inl (c 0, 1000, .inl (fun j => zI ((nr j : Nat) : Int))))] H := hP
  have hD : va_D A [(x, .inr (4, [.ref d, .ref xm, .ref rd, .int (zI ((mk : Nat) : Int))])), (rd, .inr (2, [.ref rn, .ref rc, .ref mo, .int (zI ((ct : Nat) : Int))])), (rn, .inl (c 0, 1000, .inl (fun j => zI ((nr j : Nat) : Int))))] := hD
  subst hQ
  exact W.iret (v := (zI ((nr ct : Nat) : Int))) hx hb hr (fun t9 ht hW => ⟨⟨_, (), rfl, ⟨rfl, trivial⟩, by show va_P _ _ _ t9.heap; rw [ht]; exact hP⟩, hS.F ht⟩) hS.2.2 d_To_back_7

def rm_topInit : Room := { frames := 3, cells := 14, slots := 6704, locals := 62 }
set_option maxHeartbeats 4000000 in
set_option maxRecDepth 100000 in
/-- RowModels() -/
theorem c_topInit (l : Launch) (D : va_G) (c : Nat → ClassId) (x : Nat) (sz : Nat)  : Met l y_To_init w_To_init rm_topInit (va_Pc [.ref x] (fun U => (U.heap.size = sz ∧ va_P D vwCl [(x, .inr (4, [.null, .null, .null, .int (zI 0)]))] U.heap ∧ va_D (fun _ => True) [(x, .inr (4, [.null, .null, .null, .int (zI 0)]))]) ∧ zK D c U)) (va_Qv (fun (u : Nat × Nat × Nat × Nat × Nat × Nat × Nat × Nat × Nat × Nat × Nat × Nat × Nat × Nat) => True) (fun (u : Nat × Nat × Nat × Nat × Nat × Nat × Nat × Nat × Nat × Nat × Nat × Nat × Nat × Nat) t9 => va_P D vwCl [(x, .inr (4, [.ref u.2.1, .ref u.1, .ref u.2.2.2.2.2.2.2.2.2.2.1, .int (zI 0)])), (u.1, .inl (c 3, 50, .inr (.inr (.inr (.inr z0Q))))), (u.2.1, .inr (0, [.ref u.2.2.1, .ref u.2.2.2.1, .ref u.2.2.2.2.2.1, .ref u.2.2.2.2.2.2.2.1, .ref u.2.2.2.2.2.2.2.2.2.1, .int (zI 0), .int (zI 0)])), (u.2.2.1, .inl (c 0, 255, .inl (fun j => zI ((z0N j : Nat) : Int)))), (u.2.2.2.1, .inr (3, [.ref u.2.2.2.2.1])), (u.2.2.2.2.1, .inl (c 2, 4 * 255, .inr (.inl z0J))), (u.2.2.2.2.2.1, .inr (3, [.ref u.2.2.2.2.2.2.1])), (u.2.2.2.2.2.2.1, .inl (c 2, 4 * 40, .inr (.inl z0J))), (u.2.2.2.2.2.2.2.1, .inr (3, [.ref u.2.2.2.2.2.2.2.2.1])), (u.2.2.2.2.2.2.2.2.1, .inl (c 2, 4 * 40, .inr (.inl z0J))), (u.2.2.2.2.2.2.2.2.2.1, .inl (c 1, 40, .inl (fun j => zB (z0B j)))), (u.2.2.2.2.2.2.2.2.2.2.1, .inr (2, [.ref u.2.2.2.2.2.2.2.2.2.2.2.1, .ref u.2.2.2.2.2.2.2.2.2.2.2.2.1, .null, .int (zI 0)])), (u.2.2.2.2.2.2.2.2.2.2.2.1, .inl (c 0, 1000, .inl (fun j => zI ((z0N j : Nat) : Int)))), (u.2.2.2.2.2.2.2.2.2.2.2.2.1, .inr (3, [.ref u.2.2.2.2.2.2.2.2.2.2.2.2.2])), (u.2.2.2.2.2.2.2.2.2.2.2.2.2, .inl (c 2, 4 * 1001, .inr (.inl z0J)))] t9.heap ∧ va_D (va_A [(x, .inr (4, [.null, .null, .null, .int (zI 0)]))] sz) [(x, .inr (4, [.ref u.2.1, .ref u.1, .ref u.2.2.2.2.2.2.2.2.2.2.1, .int (zI 0)])), (u.1, .inl (c 3, 50, .inr (.inr (.inr (.inr z0Q))))), (u.2.1, .inr (0, [.ref u.2.2.1, .ref u.2.2.2.1, .ref u.2.2.2.2.2.1, .ref u.2.2.2.2.2.2.2.1, .ref u.2.2.2.2.2.2.2.2.2.1, .int (zI 0), .int (zI 0)])), (u.2.2.1, .inl (c 0, 255, .inl (fun j => zI ((z0N j : Nat) : Int)))), (u.2.2.2.1, .inr (3, [.ref u.2.2.2.2.1])), (u.2.2.2.2.1, .inl (c 2, 4 * 255, .inr (.inl z0J))), (u.2.2.2.2.2.1, .inr (3, [.ref u.2.2.2.2.2.2.1])), (u.2.2.2.2.2.2.1, .inl (c 2, 4 * 40, .inr (.inl z0J))), (u.2.2.2.2.2.2.2.1, .inr (3, [.ref u.2.2.2.2.2.2.2.2.1])), (u.2.2.2.2.2.2.2.2.1, .inl (c 2, 4 * 40, .inr (.inl z0J))), (u.2.2.2.2.2.2.2.2.2.1, .inl (c 1, 40, .inl (fun j => zB (z0B j)))), (u.2.2.2.2.2.2.2.2.2.2.1, .inr (2, [.ref u.2.2.2.2.2.2.2.2.2.2.2.1, .ref u.2.2.2.2.2.2.2.2.2.2.2.2.1, .null, .int (zI 0)])), (u.2.2.2.2.2.2.2.2.2.2.2.1, .inl (c 0, 1000, .inl (fun j => zI ((z0N j : Nat) : Int)))), (u.2.2.2.2.2.2.2.2.2.2.2.2.1, .inr (3, [.ref u.2.2.2.2.2.2.2.2.2.2.2.2.2])), (u.2.2.2.2.2.2.2.2.2.2.2.2.2, .inl (c 2, 4 * 1001, .inr (.inl z0J)))]) (va_A [(x, .inr (4, [.null, .null, .null, .int (zI 0)]))] sz)) 14 6704 (va_A [(x, .inr (4, [.null, .null, .null, .int (zI 0)]))] sz) := by
  refine Met.ofW (cc := b_To_init) (maxL := 1) (ret := none) (by decide) rfl ?_
  intro p e s m args below meth c0 s₁ B hml hv
  obtain ⟨rfl, ⟨hsz, hP, hD0⟩, hKN⟩ := hv
  have hK := hKN.1
  have hN := hKN.2
  have hx := B.exec
  have hb := B.bytes
  have hr := B.returns
  have hts := atoms_spec (ws := w_To_init) B.pre
  have hw : ∀ {w : Cond}, w ∈ ALLW → w.before _ s = true := fun h => hts _ (List.mem_cons_of_mem _ h)
  have hown : s.vm.findClass R_To = some m.cls := findClass_of_methodNamed B.named
  have hlocks := B.notSynchronized
  have hin : meth.name = "<init>" := (name_of_methodNamed B.named B.method).1
  subst hsz
  have hD := hD0.self (sz := s.heap.size)
  generalize hAe : va_A [(x, .inr (4, [.null, .null, .null, .int (zI 0)]))] s.heap.size = A at hD ⊢
  have hA : ∀ q : Nat, s.heap.size ≤ q → A q := fun q h => by rw [← hAe]; exact Or.inr h
  have hS : va_S A s.heap s.heap [] := va_S.rf
  have hP : va_P D vwCl [(x, .inr (4, [.null, .null, .null, .int (zI 0)]))] s.heap := hP
  have hl := lv_entry ([.ref x]) (n := 1) (Nat.le_of_ble_eq_true rfl)
  rw [lg_entry_eq]
  generalize (lg_sl ([.ref x]) ++ List.replicate (1 - (lg_sl ([.ref x])).length) Slot.unset).toArray = ls at hl ⊢
  have hl : lv_has ls 1 [(0, .ref x)] := hl
  generalize hQ : MQ below _ _ _ _ _ _ = Q
  refine lv_aload_n hx hb d_To_init_0 rfl (lv_at hl 0 rfl) ?_
  refine W.objInit hx hb hown (hw k_To_m3) (hw k_i_ob) (hw k_c_ob) rfl (by rw [hml]; exact hl.1) rfl d_To_init_1 (Nat.le_of_ble_eq_true rfl) (Nat.le_of_ble_eq_true rfl) ?_
  refine W.eq (g2 := F0 m 4 ls []) rfl ?_
  refine lv_aload_n hx hb d_To_init_4 rfl (lv_at hl 0 rfl) ?_
  refine va_new (ci := 0) (fs := [.null, .null, .null, .null, .null, .int (zI 0), .int (zI 0)]) (C := R_Dr) (T := T_Dr) (N := 7) hx hb hts (fun w h => List.mem_cons_of_mem _ (inA_Dr w h)) ty_Dr tyok_Dr hown (hw k_To_c9) (hw k_o_Dr) (hw k_n_Dr) hK hP hD hS hA rfl (fun j hj => by rcases (show j = 0 ∨ j = 1 ∨ j = 2 ∨ j = 3 ∨ j = 4 ∨ j = 5 ∨ j = 6 by omega) with rfl | rfl | rfl | rfl | rfl | rfl | rfl <;> rfl) (Nat.le_of_ble_eq_true rfl) (Nat.le_of_ble_eq_true rfl) d_To_init_5 (fun a5 H hP hD hS => ?_)
  have hP : va_P D vwCl [(x, .inr (4, [.null, .null, .null, .int (zI 0)])), (a5, .inr (0, [.null, .null, .null, .null, .null, .int (zI 0), .int (zI 0)]))] H := hP
  have hD : va_D A [(x, .inr (4, [.null, .null, .null, .int (zI 0)])), (a5, .inr (0, [.null, .null, .null, .null, .null, .int (zI 0), .int (zI 0)]))] := hD
  refine W.widen (k := 1) (n := 7) (by omega) (by omega) ?_
  refine lv_dup hx hb d_To_init_8 rfl ?_
  have hPc : va_P D vwCl [(a5, .inr (0, [.null, .null, .null, .null, .null, .int (zI 0), .int (zI 0)]))] H := hP.sub (ws' := [(a5, .inr (0, [.null, .null, .null, .null, .null, .int (zI 0), .int (zI 0)]))]) [1] rfl
  have hDc : va_D A [(a5, .inr (0, [.null, .null, .null, .null, .null, .int (zI 0), .int (zI 0)]))] := hD.sub (ws' := [(a5, .inr (0, [.null, .null, .null, .null, .null, .int (zI 0), .int (zI 0)]))]) [1] (by decide) rfl
  have hDt : va_D (fun _ => True) [(a5, .inr (0, [.null, .null, .null, .null, .null, .int (zI 0), .int (zI 0)]))] := hDc.weaken (fun _ _ _ _ => trivial)
  have hFc := va_free (wc := [(a5, .inr (0, [.null, .null, .null, .null, .null, .int (zI 0), .int (zI 0)]))]) hD hS hA [1] rfl
  refine va_callv (va_runIN (rm := rm_draftInit) (As := []) (rest := [.ref a5, .ref x]) ⟨hx, hb, hml, hown, hts⟩ (c_draftInit l D c a5 H.size ) (And.intro (va_cnB 0 hts (gW k_c_Dr_init) rfl rfl rfl hN.1 (hw k_n_Dr) (by decide +kernel) ⟨Nat.le_of_ble_eq_true rfl, Nat.le_of_ble_eq_true rfl⟩) ⟨rfl, hw k_i_Dr_init⟩) ⟨zblindA, fun U hU hW => ⟨rfl, ⟨by rw [hU], by rw [hU]; exact hPc, hDt⟩, hKN.moved hW⟩⟩ rfl rfl hl.1 rfl (lv_room (Nat.le_of_ble_eq_true rfl)) d_To_init_9 ⟨Nat.le_of_ble_eq_true rfl, Nat.le_of_ble_eq_true rfl⟩) hS (fun q _ h => hFc q h) hFc (fun u t9 H1 locs ht hvm hp_2 hB hz1 hk1 hS => ?_)
  obtain ⟨dn, df, dfw, di, diw, dl, dlw, dm⟩ := u
  have hp_2 : True := hp_2
  obtain ⟨hP1, hD1⟩ := hB
  rw [ht] at hP1
  obtain ⟨hP, hD⟩ := va_join (wr := [(x, .inr (4, [.null, .null, .null, .int (zI 0)]))]) (w1 := [(a5, .inr (0, [.ref dn, .ref df, .ref di, .ref dl, .ref dm, .int (zI 0), .int (zI 0)])), (dn, .inl (c 0, 255, .inl (fun j => zI ((z0N j : Nat) : Int)))), (df, .inr (3, [.ref dfw])), (dfw, .inl (c 2, 4 * 255, .inr (.inl z0J))), (di, .inr (3, [.ref diw])), (diw, .inl (c 2, 4 * 40, .inr (.inl z0J))), (dl, .inr (3, [.ref dlw])), (dlw, .inl (c 2, 4 * 40, .inr (.inl z0J))), (dm, .inl (c 1, 40, .inl (fun j => zB (z0B j))))]) hP hD [1] [0] rfl rfl (by decide) (by decide) hk1 hFc hP1 hD1
  generalize H1 = H at hP hS ⊢
  have hP : va_P D vwCl [(x, .inr (4, [.null, .null, .null, .int (zI 0)])), (a5, .inr (0, [.ref dn, .ref df, .ref di, .ref dl, .ref dm, .int (zI 0), .int (zI 0)])), (dn, .inl (c 0, 255, .inl (fun j => zI ((z0N j : Nat) : Int)))), (df, .inr (3, [.ref dfw])), (dfw, .inl (c 2, 4 * 255, .inr (.inl z0J))), (di, .inr (3, [.ref diw])), (diw, .inl (c 2, 4 * 40, .inr (.inl z0J))), (dl, .inr (3, [.ref dlw])), (dlw, .inl (c 2, 4 * 40, .inr (.inl z0J))), (dm, .inl (c 1, 40, .inl (fun j => zB (z0B j))))] H := hP.sub [0, 1, 2, 3, 4, 5, 6, 7, 8, 9] rfl
  have hD : va_D A [(x, .inr (4, [.null, .null, .null, .int (zI 0)])), (a5, .inr (0, [.ref dn, .ref df, .ref di, .ref dl, .ref dm, .int (zI 0), .int (zI 0)])), (dn, .inl (c 0, 255, .inl (fun j => zI ((z0N j : Nat) : Int)))), (df, .inr (3, [.ref dfw])), (dfw, .inl (c 2, 4 * 255, .inr (.inl z0J))), (di, .inr (3, [.ref diw])), (diw, .inl (c 2, 4 * 40, .inr (.inl z0J))), (dl, .inr (3, [.ref dlw])), (dlw, .inl (c 2, 4 * 40, .inr (.inl z0J))), (dm, .inl (c 1, 40, .inl (fun j => zB (z0B j))))] := hD.sub [0, 1, 2, 3, 4, 5, 6, 7, 8, 9] (by decide) rfl
  refine W.widen (k := 9) (n := 1645) (by omega) (by omega) ?_
  refine va_putF (D := D) (ci := 4) (v := .ref a5) (ty := .object "RowModels$Draft") (C := R_To) (T := T_To) (N := 4) hx hb hts (fun w h => List.mem_cons_of_mem _ (inA_To w h)) ty_To tyok_To nm_To hown hK hP hD hS 0 rfl rfl 0 (by decide) (hw k_To_f12) (fun _ h9 => h9) rfl hin rfl (by decide +kernel) rfl rfl (Nat.le_of_ble_eq_true rfl) d_To_init_12 (fun H locs hP hD hS => ?_)
  have hP : va_P D vwCl [(x, .inr (4, [.ref a5, .null, .null, .int (zI 0)])), (a5, .inr (0, [.ref dn, .ref df, .ref di, .ref dl, .ref dm, .int (zI 0), .int (zI 0)])), (dn, .inl (c 0, 255, .inl (fun j => zI ((z0N j : Nat) : Int)))), (df, .inr (3, [.ref dfw])), (dfw, .inl (c 2, 4 * 255, .inr (.inl z0J))), (di, .inr (3, [.ref diw])), (diw, .inl (c 2, 4 * 40, .inr (.inl z0J))), (dl, .inr (3, [.ref dlw])), (dlw, .inl (c 2, 4 * 40, .inr (.inl z0J))), (dm, .inl (c 1, 40, .inl (fun j => zB (z0B j))))] H := hP
  have hD : va_D A [(x, .inr (4, [.ref a5, .null, .null, .int (zI 0)])), (a5, .inr (0, [.ref dn, .ref df, .ref di, .ref dl, .ref dm, .int (zI 0), .int (zI 0)])), (dn, .inl (c 0, 255, .inl (fun j => zI ((z0N j : Nat) : Int)))), (df, .inr (3, [.ref dfw])), (dfw, .inl (c 2, 4 * 255, .inr (.inl z0J))), (di, .inr (3, [.ref diw])), (diw, .inl (c 2, 4 * 40, .inr (.inl z0J))), (dl, .inr (3, [.ref dlw])), (dlw, .inl (c 2, 4 * 40, .inr (.inl z0J))), (dm, .inl (c 1, 40, .inl (fun j => zB (z0B j))))] := hD
  refine lv_aload_n hx hb d_To_init_15 rfl (lv_at hl 0 rfl) ?_
  refine lv_bipush (v := zI 50) hx hb d_To_init_16 (by decide) ?_
  refine z_newq hx hb hown (hw k_To_c16) hN.2.2.2.2.2.2 hK hP hD hS hA 3 rfl (50) (by omega) (by omega) (by omega) (Nat.le_of_ble_eq_true rfl) (Nat.le_of_ble_eq_true rfl) d_To_init_18 (fun a18 H hP hD hS => ?_)
  have hP : va_P D vwCl [(x, .inr (4, [.ref a5, .null, .null, .int (zI 0)])), (a5, .inr (0, [.ref dn, .ref df, .ref di, .ref dl, .ref dm, .int (zI 0), .int (zI 0)])), (dn, .inl (c 0, 255, .inl (fun j => zI ((z0N j : Nat) : Int)))), (df, .inr (3, [.ref dfw])), (dfw, .inl (c 2, 4 * 255, .inr (.inl z0J))), (di, .inr (3, [.ref diw])), (diw, .inl (c 2, 4 * 40, .inr (.inl z0J))), (dl, .inr (3, [.ref dlw])), (dlw, .inl (c 2, 4 * 40, .inr (.inl z0J))), (dm, .inl (c 1, 40, .inl (fun j => zB (z0B j)))), (a18, .inl (c 3, 50, .inr (.inr (.inr (.inr z0Q)))))] H := hP
  have hD : va_D A [(x, .inr (4, [.ref a5, .null, .null, .int (zI 0)])), (a5, .inr (0, [.ref dn, .ref df, .ref di, .ref dl, .ref dm, .int (zI 0), .int (zI 0)])), (dn, .inl (c 0, 255, .inl (fun j => zI ((z0N j : Nat) : Int)))), (df, .inr (3, [.ref dfw])), (dfw, .inl (c 2, 4 * 255, .inr (.inl z0J))), (di, .inr (3, [.ref diw])), (diw, .inl (c 2, 4 * 40, .inr (.inl z0J))), (dl, .inr (3, [.ref dlw])), (dlw, .inl (c 2, 4 * 40, .inr (.inl z0J))), (dm, .inl (c 1, 40, .inl (fun j => zB (z0B j)))), (a18, .inl (c 3, 50, .inr (.inr (.inr (.inr z0Q)))))] := hD
  refine W.widen (k := 10) (n := 1695) (by omega) (by omega) ?_
  refine va_putF (D := D) (ci := 4) (v := .ref a18) (ty := .array (.object "RowModels$Model")) (C := R_To) (T := T_To) (N := 4) hx hb hts (fun w h => List.mem_cons_of_mem _ (inA_To w h)) ty_To tyok_To nm_To hown hK hP hD hS 0 rfl rfl 1 (by decide) (hw k_To_f18) (fun _ h9 => h9) rfl hin rfl (by decide +kernel) rfl rfl (Nat.le_of_ble_eq_true rfl) d_To_init_21 (fun H locs hP hD hS => ?_)
  have hP : va_P D vwCl [(x, .inr (4, [.ref a5, .ref a18, .null, .int (zI 0)])), (a5, .inr (0, [.ref dn, .ref df, .ref di, .ref dl, .ref dm, .int (zI 0), .int (zI 0)])), (dn, .inl (c 0, 255, .inl (fun j => zI ((z0N j : Nat) : Int)))), (df, .inr (3, [.ref dfw])), (dfw, .inl (c 2, 4 * 255, .inr (.inl z0J))), (di, .inr (3, [.ref diw])), (diw, .inl (c 2, 4 * 40, .inr (.inl z0J))), (dl, .inr (3, [.ref dlw])), (dlw, .inl (c 2, 4 * 40, .inr (.inl z0J))), (dm, .inl (c 1, 40, .inl (fun j => zB (z0B j)))), (a18, .inl (c 3, 50, .inr (.inr (.inr (.inr z0Q)))))] H := hP
  have hD : va_D A [(x, .inr (4, [.ref a5, .ref a18, .null, .int (zI 0)])), (a5, .inr (0, [.ref dn, .ref df, .ref di, .ref dl, .ref dm, .int (zI 0), .int (zI 0)])), (dn, .inl (c 0, 255, .inl (fun j => zI ((z0N j : Nat) : Int)))), (df, .inr (3, [.ref dfw])), (dfw, .inl (c 2, 4 * 255, .inr (.inl z0J))), (di, .inr (3, [.ref diw])), (diw, .inl (c 2, 4 * 40, .inr (.inl z0J))), (dl, .inr (3, [.ref dlw])), (dlw, .inl (c 2, 4 * 40, .inr (.inl z0J))), (dm, .inl (c 1, 40, .inl (fun j => zB (z0B j)))), (a18, .inl (c 3, 50, .inr (.inr (.inr (.inr z0Q)))))] := hD
  refine lv_aload_n hx hb d_To_init_24 rfl (lv_at hl 0 rfl) ?_
  refine va_new (ci := 2) (fs := [.null, .null, .null, .int (zI 0)]) (C := R_Re) (T := T_Re) (N := 4) hx hb hts (fun w h => List.mem_cons_of_mem _ (inA_Re w h)) ty_Re tyok_Re hown (hw k_To_c22) (hw k_o_Re) (hw k_n_Re) hK hP hD hS hA rfl (fun j hj => by rcases (show j = 0 ∨ j = 1 ∨ j = 2 ∨ j = 3 by omega) with rfl | rfl | rfl | rfl <;> rfl) (Nat.le_of_ble_eq_true rfl) (Nat.le_of_ble_eq_true rfl) d_To_init_25 (fun a25 H hP hD hS => ?_)
  have hP : va_P D vwCl [(x, .inr (4, [.ref a5, .ref a18, .null, .int (zI 0)])), (a5, .inr (0, [.ref dn, .ref df, .ref di, .ref dl, .ref dm, .int (zI 0), .int (zI 0)])), (dn, .inl (c 0, 255, .inl (fun j => zI ((z0N j : Nat) : Int)))), (df, .inr (3, [.ref dfw])), (dfw, .inl (c 2, 4 * 255, .inr (.inl z0J))), (di, .inr (3, [.ref diw])), (diw, .inl (c 2, 4 * 40, .inr (.inl z0J))), (dl, .inr (3, [.ref dlw])), (dlw, .inl (c 2, 4 * 40, .inr (.inl z0J))), (dm, .inl (c 1, 40, .inl (fun j => zB (z0B j)))), (a18, .inl (c 3, 50, .inr (.inr (.inr (.inr z0Q))))), (a25, .inr (2, [.null, .null, .null, .int (zI 0)]))] H := hP
  have hD : va_D A [(x, .inr (4, [.ref a5, .ref a18, .null, .int (zI 0)])), (a5, .inr (0, [.ref dn, .ref df, .ref di, .ref dl, .ref dm, .int (zI 0), .int (zI 0)])), (dn, .inl (c 0, 255, .inl (fun j => zI ((z0N j : Nat) : Int)))), (df, .inr (3, [.ref dfw])), (dfw, .inl (c 2, 4 * 255, .inr (.inl z0J))), (di, .inr (3, [.ref diw])), (diw, .inl (c 2, 4 * 40, .inr (.inl z0J))), (dl, .inr (3, [.ref dlw])), (dlw, .inl (c 2, 4 * 40, .inr (.inl z0J))), (dm, .inl (c 1, 40, .inl (fun j => zB (z0B j)))), (a18, .inl (c 3, 50, .inr (.inr (.inr (.inr z0Q))))), (a25, .inr (2, [.null, .null, .null, .int (zI 0)]))] := hD
  refine W.widen (k := 11) (n := 1699) (by omega) (by omega) ?_
  refine lv_dup hx hb d_To_init_28 rfl ?_
  have hPc : va_P D vwCl [(a25, .inr (2, [.null, .null, .null, .int (zI 0)]))] H := hP.sub (ws' := [(a25, .inr (2, [.null, .null, .null, .int (zI 0)]))]) [11] rfl
  have hDc : va_D A [(a25, .inr (2, [.null, .null, .null, .int (zI 0)]))] := hD.sub (ws' := [(a25, .inr (2, [.null, .null, .null, .int (zI 0)]))]) [11] (by decide) rfl
  have hDt : va_D (fun _ => True) [(a25, .inr (2, [.null, .null, .null, .int (zI 0)]))] := hDc.weaken (fun _ _ _ _ => trivial)
  have hFc := va_free (wc := [(a25, .inr (2, [.null, .null, .null, .int (zI 0)]))]) hD hS hA [11] rfl
  refine va_callv (va_runIN (rm := rm_readingInit) (As := []) (rest := [.ref a25, .ref x]) ⟨hx, hb, hml, hown, hts⟩ (c_readingInit l D c a25 H.size ) (And.intro (va_cnB 0 hts (gW k_c_Re_init) rfl rfl rfl hN.2.2.1 (hw k_n_Re) (by decide +kernel) ⟨Nat.le_of_ble_eq_true rfl, Nat.le_of_ble_eq_true rfl⟩) ⟨rfl, hw k_i_Re_init⟩) ⟨zblindA, fun U hU hW => ⟨rfl, ⟨by rw [hU], by rw [hU]; exact hPc, hDt⟩, hKN.moved hW⟩⟩ rfl rfl hl.1 rfl (lv_room (Nat.le_of_ble_eq_true rfl)) d_To_init_29 ⟨Nat.le_of_ble_eq_true rfl, Nat.le_of_ble_eq_true rfl⟩) hS (fun q _ h => hFc q h) hFc (fun u t9 H1 locs ht hvm hp_4 hB hz1 hk1 hS => ?_)
  obtain ⟨rn, rc, rcw⟩ := u
  have hp_4 : True := hp_4
  obtain ⟨hP1, hD1⟩ := hB
  rw [ht] at hP1
  obtain ⟨hP, hD⟩ := va_join (wr := [(x, .inr (4, [.ref a5, .ref a18, .null, .int (zI 0)])), (a5, .inr (0, [.ref dn, .ref df, .ref di, .ref dl, .ref dm, .int (zI 0), .int (zI 0)])), (dn, .inl (c 0, 255, .inl (fun j => zI ((z0N j : Nat) : Int)))), (df, .inr (3, [.ref dfw])), (dfw, .inl (c 2, 4 * 255, .inr (.inl z0J))), (di, .inr (3, [.ref diw])), (diw, .inl (c 2, 4 * 40, .inr (.inl z0J))), (dl, .inr (3, [.ref dlw])), (dlw, .inl (c 2, 4 * 40, .inr (.inl z0J))), (dm, .inl (c 1, 40, .inl (fun j => zB (z0B j)))), (a18, .inl (c 3, 50, .inr (.inr (.inr (.inr z0Q)))))]) (w1 := [(a25, .inr (2, [.ref rn, .ref rc, .null, .int (zI 0)])), (rn, .inl (c 0, 1000, .inl (fun j => zI ((z0N j : Nat) : Int)))), (rc, .inr (3, [.ref rcw])), (rcw, .inl (c 2, 4 * 1001, .inr (.inl z0J)))]) hP hD [11] [0, 1, 2, 3, 4, 5, 6, 7, 8, 9, 10] rfl rfl (by decide) (by decide) hk1 hFc hP1 hD1
  generalize H1 = H at hP hS ⊢
  have hP : va_P D vwCl [(x, .inr (4, [.ref a5, .ref a18, .null, .int (zI 0)])), (a5, .inr (0, [.ref dn, .ref df, .ref di, .ref dl, .ref dm, .int (zI 0), .int (zI 0)])), (dn, .inl (c 0, 255, .inl (fun j => zI ((z0N j : Nat) : Int)))), (df, .inr (3, [.ref dfw])), (dfw, .inl (c 2, 4 * 255, .inr (.inl z0J))), (di, .inr (3, [.ref diw])), (diw, .inl (c 2, 4 * 40, .inr (.inl z0J))), (dl, .inr (3, [.ref dlw])), (dlw, .inl (c 2, 4 * 40, .inr (.inl z0J))), (dm, .inl (c 1, 40, .inl (fun j => zB (z0B j)))), (a18, .inl (c 3, 50, .inr (.inr (.inr (.inr z0Q))))), (a25, .inr (2, [.ref rn, .ref rc, .null, .int (zI 0)])), (rn, .inl (c 0, 1000, .inl (fun j => zI ((z0N j : Nat) : Int)))), (rc, .inr (3, [.ref rcw])), (rcw, .inl (c 2, 4 * 1001, .inr (.inl z0J)))] H := hP.sub [0, 1, 2, 3, 4, 5, 6, 7, 8, 9, 10, 11, 12, 13, 14] rfl
  have hD : va_D A [(x, .inr (4, [.ref a5, .ref a18, .null, .int (zI 0)])), (a5, .inr (0, [.ref dn, .ref df, .ref di, .ref dl, .ref dm, .int (zI 0), .int (zI 0)])), (dn, .inl (c 0, 255, .inl (fun j => zI ((z0N j : Nat) : Int)))), (df, .inr (3, [.ref dfw])), (dfw, .inl (c 2, 4 * 255, .inr (.inl z0J))), (di, .inr (3, [.ref diw])), (diw, .inl (c 2, 4 * 40, .inr (.inl z0J))), (dl, .inr (3, [.ref dlw])), (dlw, .inl (c 2, 4 * 40, .inr (.inl z0J))), (dm, .inl (c 1, 40, .inl (fun j => zB (z0B j)))), (a18, .inl (c 3, 50, .inr (.inr (.inr (.inr z0Q))))), (a25, .inr (2, [.ref rn, .ref rc, .null, .int (zI 0)])), (rn, .inl (c 0, 1000, .inl (fun j => zI ((z0N j : Nat) : Int)))), (rc, .inr (3, [.ref rcw])), (rcw, .inl (c 2, 4 * 1001, .inr (.inl z0J)))] := hD.sub [0, 1, 2, 3, 4, 5, 6, 7, 8, 9, 10, 11, 12, 13, 14] (by decide) rfl
  refine W.widen (k := 14) (n := 6704) (by omega) (by omega) ?_
  refine va_putF (D := D) (ci := 4) (v := .ref a25) (ty := .object "RowModels$Reading") (C := R_To) (T := T_To) (N := 4) hx hb hts (fun w h => List.mem_cons_of_mem _ (inA_To w h)) ty_To tyok_To nm_To hown hK hP hD hS 0 rfl rfl 2 (by decide) (hw k_To_f25) (fun _ h9 => h9) rfl hin rfl (by decide +kernel) rfl rfl (Nat.le_of_ble_eq_true rfl) d_To_init_32 (fun H locs hP hD hS => ?_)
  have hP : va_P D vwCl [(x, .inr (4, [.ref a5, .ref a18, .ref a25, .int (zI 0)])), (a5, .inr (0, [.ref dn, .ref df, .ref di, .ref dl, .ref dm, .int (zI 0), .int (zI 0)])), (dn, .inl (c 0, 255, .inl (fun j => zI ((z0N j : Nat) : Int)))), (df, .inr (3, [.ref dfw])), (dfw, .inl (c 2, 4 * 255, .inr (.inl z0J))), (di, .inr (3, [.ref diw])), (diw, .inl (c 2, 4 * 40, .inr (.inl z0J))), (dl, .inr (3, [.ref dlw])), (dlw, .inl (c 2, 4 * 40, .inr (.inl z0J))), (dm, .inl (c 1, 40, .inl (fun j => zB (z0B j)))), (a18, .inl (c 3, 50, .inr (.inr (.inr (.inr z0Q))))), (a25, .inr (2, [.ref rn, .ref rc, .null, .int (zI 0)])), (rn, .inl (c 0, 1000, .inl (fun j => zI ((z0N j : Nat) : Int)))), (rc, .inr (3, [.ref rcw])), (rcw, .inl (c 2, 4 * 1001, .inr (.inl z0J)))] H := hP
  have hD : va_D A [(x, .inr (4, [.ref a5, .ref a18, .ref a25, .int (zI 0)])), (a5, .inr (0, [.ref dn, .ref df, .ref di, .ref dl, .ref dm, .int (zI 0), .int (zI 0)])), (dn, .inl (c 0, 255, .inl (fun j => zI ((z0N j : Nat) : Int)))), (df, .inr (3, [.ref dfw])), (dfw, .inl (c 2, 4 * 255, .inr (.inl z0J))), (di, .inr (3, [.ref diw])), (diw, .inl (c 2, 4 * 40, .inr (.inl z0J))), (dl, .inr (3, [.ref dlw])), (dlw, .inl (c 2, 4 * 40, .inr (.inl z0J))), (dm, .inl (c 1, 40, .inl (fun j => zB (z0B j)))), (a18, .inl (c 3, 50, .inr (.inr (.inr (.inr z0Q))))), (a25, .inr (2, [.ref rn, .ref rc, .null, .int (zI 0)])), (rn, .inl (c 0, 1000, .inl (fun j => zI ((z0N j : Nat) : Int)))), (rc, .inr (3, [.ref rcw])), (rcw, .inl (c 2, 4 * 1001, .inr (.inl z0J)))] := hD
  refine lv_aload_n hx hb d_To_init_35 rfl (lv_at hl 0 rfl) ?_
  refine lv_iconst (v := zI 0) hx hb d_To_init_36 (by decide) ?_
  refine va_put (D := D) (ci := 4) (v := .int (zI 0)) (ty := .int) (C := R_To) (T := T_To) (N := 4) hx hb hts (fun w h => List.mem_cons_of_mem _ (inA_To w h)) ty_To tyok_To nm_To hown hK hP hD hS 0 rfl rfl 3 (by decide) (hw k_To_f29) (fun _ h9 => h9) rfl (by decide +kernel) rfl rfl (Nat.le_of_ble_eq_true rfl) d_To_init_37 (fun H locs hP hD hS => ?_)
  have hP : va_P D vwCl [(x, .inr (4, [.ref a5, .ref a18, .ref a25, .int (zI 0)])), (a5, .inr (0, [.ref dn, .ref df, .ref di, .ref dl, .ref dm, .int (zI 0), .int (zI 0)])), (dn, .inl (c 0, 255, .inl (fun j => zI ((z0N j : Nat) : Int)))), (df, .inr (3, [.ref dfw])), (dfw, .inl (c 2, 4 * 255, .inr (.inl z0J))), (di, .inr (3, [.ref diw])), (diw, .inl (c 2, 4 * 40, .inr (.inl z0J))), (dl, .inr (3, [.ref dlw])), (dlw, .inl (c 2, 4 * 40, .inr (.inl z0J))), (dm, .inl (c 1, 40, .inl (fun j => zB (z0B j)))), (a18, .inl (c 3, 50, .inr (.inr (.inr (.inr z0Q))))), (a25, .inr (2, [.ref rn, .ref rc, .null, .int (zI 0)])), (rn, .inl (c 0, 1000, .inl (fun j => zI ((z0N j : Nat) : Int)))), (rc, .inr (3, [.ref rcw])), (rcw, .inl (c 2, 4 * 1001, .inr (.inl z0J)))] H := hP
  have hD : va_D A [(x, .inr (4, [.ref a5, .ref a18, .ref a25, .int (zI 0)])), (a5, .inr (0, [.ref dn, .ref df, .ref di, .ref dl, .ref dm, .int (zI 0), .int (zI 0)])), (dn, .inl (c 0, 255, .inl (fun j => zI ((z0N j : Nat) : Int)))), (df, .inr (3, [.ref dfw])), (dfw, .inl (c 2, 4 * 255, .inr (.inl z0J))), (di, .inr (3, [.ref diw])), (diw, .inl (c 2, 4 * 40, .inr (.inl z0J))), (dl, .inr (3, [.ref dlw])), (dlw, .inl (c 2, 4 * 40, .inr (.inl z0J))), (dm, .inl (c 1, 40, .inl (fun j => zB (z0B j)))), (a18, .inl (c 3, 50, .inr (.inr (.inr (.inr z0Q))))), (a25, .inr (2, [.ref rn, .ref rc, .null, .int (zI 0)])), (rn, .inl (c 0, 1000, .inl (fun j => zI ((z0N j : Nat) : Int)))), (rc, .inr (3, [.ref rcw])), (rcw, .inl (c 2, 4 * 1001, .inr (.inl z0J)))] := hD
  subst hQ
  refine W.widen (k := 14) (n := 6704) (by omega) (by omega) ?_
  exact W.vret hx hb hr (fun t9 ht hW => ⟨⟨(a18, a5, dn, df, dfw, di, diw, dl, dlw, dm, a25, rn, rc, rcw), rfl, trivial, by show va_P _ _ _ t9.heap; rw [ht]; exact hP.sub [0, 10, 1, 2, 3, 4, 5, 6, 7, 8, 9, 11, 12, 13, 14] rfl, by exact hD.sub [0, 10, 1, 2, 3, 4, 5, 6, 7, 8, 9, 11, 12, 13, 14] (by decide) rfl⟩, hS.F ht⟩) hS.2.2 d_To_init_40
end
