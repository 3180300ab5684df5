def R_Col : String := "PageStore$Column"
def F_Col : u_T := fun k => match k with
  | 0 => ("PageStore$Column", "limit", "I", true)
  | _ => ("PageStore$Column", "cells", "[I", false)
def t_Col : Nat → FieldType := fun k => match k with
  | 0 => .int
  | _ => .array .int
theorem n_Col : ∀ a, a < 2 → ∀ b, b < 2 → a ≠ b → (F_Col a).2.1 ≠ (F_Col b).2.1 := by decide +kernel
theorem t_Col_ok : ∀ k, k < 2 → parseFieldDescriptor (F_Col k).2.2.1 = some (t_Col k) := by decide +kernel
abbrev cCol : Nat := 0
theorem z_Col : ∀ j, j < 2 → defaultValue (t_Col j) = vp_V [.int 0, .null] j := by intro j hj; match j, hj with | 0, _ => rfl | 1, _ => rfl | n + 2, h => exact absurd h (by omega)
theorem i_Col : ∀ w ∈ u_ws R_Col F_Col 2, w ∈ ps_tbl := by decide +kernel
def R_Val : String := "PageStore$Values"
def F_Val : u_T := fun k => match k with
  | 0 => ("PageStore$Values", "kinds", "LPageStore$Column;", true)
  | _ => ("PageStore$Values", "numbers", "LPageStore$Column;", true)
def t_Val : Nat → FieldType := fun k => match k with
  | 0 => .object "PageStore$Column"
  | _ => .object "PageStore$Column"
theorem n_Val : ∀ a, a < 2 → ∀ b, b < 2 → a ≠ b → (F_Val a).2.1 ≠ (F_Val b).2.1 := by decide +kernel
theorem t_Val_ok : ∀ k, k < 2 → parseFieldDescriptor (F_Val k).2.2.1 = some (t_Val k) := by decide +kernel
abbrev cVal : Nat := 1
theorem z_Val : ∀ j, j < 2 → defaultValue (t_Val j) = vp_V [.null, .null] j := by intro j hj; match j, hj with | 0, _ => rfl | 1, _ => rfl | n + 2, h => exact absurd h (by omega)
theorem i_Val : ∀ w ∈ u_ws R_Val F_Val 2, w ∈ ps_tbl := by decide +kernel
def R_Row : String := "PageStore$Rows"
def F_Row : u_T := fun k => match k with
  | 0 => ("PageStore$Rows", "sorts", "LPageStore$Column;", true)
  | 1 => ("PageStore$Rows", "starts", "LPageStore$Column;", true)
  | _ => ("PageStore$Rows", "lengths", "LPageStore$Column;", true)
def t_Row : Nat → FieldType := fun k => match k with
  | 0 => .object "PageStore$Column"
  | 1 => .object "PageStore$Column"
  | _ => .object "PageStore$Column"
theorem n_Row : ∀ a, a < 3 → ∀ b, b < 3 → a ≠ b → (F_Row a).2.1 ≠ (F_Row b).2.1 := by decide +kernel
theorem t_Row_ok : ∀ k, k < 3 → parseFieldDescriptor (F_Row k).2.2.1 = some (t_Row k) := by decide +kernel
abbrev cRow : Nat := 2
theorem z_Row : ∀ j, j < 3 → defaultValue (t_Row j) = vp_V [.null, .null, .null] j := by intro j hj; match j, hj with | 0, _ => rfl | 1, _ => rfl | 2, _ => rfl | n + 3, h => exact absurd h (by omega)
theorem i_Row : ∀ w ∈ u_ws R_Row F_Row 3, w ∈ ps_tbl := by decide +kernel
def R_Key : String := "PageStore$Keys"
def F_Key : u_T := fun k => match k with
  | 0 => ("PageStore$Keys", "dictionaries", "LPageStore$Column;", true)
  | 1 => ("PageStore$Keys", "kinds", "LPageStore$Column;", true)
  | 2 => ("PageStore$Keys", "numbers", "LPageStore$Column;", true)
  | _ => ("PageStore$Keys", "values", "LPageStore$Values;", true)
def t_Key : Nat → FieldType := fun k => match k with
  | 0 => .object "PageStore$Column"
  | 1 => .object "PageStore$Column"
  | 2 => .object "PageStore$Column"
  | _ => .object "PageStore$Values"
theorem n_Key : ∀ a, a < 4 → ∀ b, b < 4 → a ≠ b → (F_Key a).2.1 ≠ (F_Key b).2.1 := by decide +kernel
theorem t_Key_ok : ∀ k, k < 4 → parseFieldDescriptor (F_Key k).2.2.1 = some (t_Key k) := by decide +kernel
abbrev cKey : Nat := 3
theorem z_Key : ∀ j, j < 4 → defaultValue (t_Key j) = vp_V [.null, .null, .null, .null] j := by intro j hj; match j, hj with | 0, _ => rfl | 1, _ => rfl | 2, _ => rfl | 3, _ => rfl | n + 4, h => exact absurd h (by omega)
theorem i_Key : ∀ w ∈ u_ws R_Key F_Key 4, w ∈ ps_tbl := by decide +kernel
def R_Mem : String := "PageStore$Memories"
def F_Mem : u_T := fun k => match k with
  | 0 => ("PageStore$Memories", "whose", "LPageStore$Column;", true)
  | 1 => ("PageStore$Memories", "indexes", "LPageStore$Column;", true)
  | _ => ("PageStore$Memories", "old", "LPageStore$Values;", true)
def t_Mem : Nat → FieldType := fun k => match k with
  | 0 => .object "PageStore$Column"
  | 1 => .object "PageStore$Column"
  | _ => .object "PageStore$Values"
theorem n_Mem : ∀ a, a < 3 → ∀ b, b < 3 → a ≠ b → (F_Mem a).2.1 ≠ (F_Mem b).2.1 := by decide +kernel
theorem t_Mem_ok : ∀ k, k < 3 → parseFieldDescriptor (F_Mem k).2.2.1 = some (t_Mem k) := by decide +kernel
abbrev cMem : Nat := 4
theorem z_Mem : ∀ j, j < 3 → defaultValue (t_Mem j) = vp_V [.null, .null, .null] j := by intro j hj; match j, hj with | 0, _ => rfl | 1, _ => rfl | 2, _ => rfl | n + 3, h => exact absurd h (by omega)
theorem i_Mem : ∀ w ∈ u_ws R_Mem F_Mem 3, w ∈ ps_tbl := by decide +kernel
def R_PS : String := "PageStore"
def F_PS : u_T := fun k => match k with
  | 0 => ("PageStore", "counts", "[I", true)
  | 1 => ("PageStore", "notes", "LPageStore$Column;", true)
  | 2 => ("PageStore", "saves", "I", false)
  | 3 => ("PageStore", "rows", "LPageStore$Rows;", true)
  | 4 => ("PageStore", "places", "LPageStore$Values;", true)
  | 5 => ("PageStore", "octets", "LPageStore$Column;", true)
  | 6 => ("PageStore", "keys", "LPageStore$Keys;", true)
  | 7 => ("PageStore", "memories", "LPageStore$Memories;", true)
  | 8 => ("PageStore", "cursorKeyKind", "I", false)
  | _ => ("PageStore", "cursorKeyNumber", "I", false)
def t_PS : Nat → FieldType := fun k => match k with
  | 0 => .array .int
  | 1 => .object "PageStore$Column"
  | 2 => .int
  | 3 => .object "PageStore$Rows"
  | 4 => .object "PageStore$Values"
  | 5 => .object "PageStore$Column"
  | 6 => .object "PageStore$Keys"
  | 7 => .object "PageStore$Memories"
  | 8 => .int
  | _ => .int
theorem n_PS : ∀ a, a < 10 → ∀ b, b < 10 → a ≠ b → (F_PS a).2.1 ≠ (F_PS b).2.1 := by decide +kernel
theorem t_PS_ok : ∀ k, k < 10 → parseFieldDescriptor (F_PS k).2.2.1 = some (t_PS k) := by decide +kernel
abbrev cPS : Nat := 5
theorem z_PS : ∀ j, j < 10 → defaultValue (t_PS j) = vp_V [.null, .null, .int 0, .null, .null, .null, .null, .null, .int 0, .int 0] j := by intro j hj; match j, hj with | 0, _ => rfl | 1, _ => rfl | 2, _ => rfl | 3, _ => rfl | 4, _ => rfl | 5, _ => rfl | 6, _ => rfl | 7, _ => rfl | 8, _ => rfl | 9, _ => rfl | n + 10, h => exact absurd h (by omega)
theorem i_PS : ∀ w ∈ u_ws R_PS F_PS 10, w ∈ ps_tbl := by decide +kernel
def R_Mod : String := "PageStoreModel"
def F_Mod : u_T := fun k => match k with
  | 0 => ("PageStoreModel", "sorts", "[B", true)
  | 1 => ("PageStoreModel", "firsts", "[I", true)
  | 2 => ("PageStoreModel", "lengths", "[I", true)
  | 3 => ("PageStoreModel", "rows", "I", false)
  | 4 => ("PageStoreModel", "kinds", "[B", true)
  | 5 => ("PageStoreModel", "numbers", "[I", true)
  | 6 => ("PageStoreModel", "places", "I", false)
  | 7 => ("PageStoreModel", "bytes", "[B", true)
  | 8 => ("PageStoreModel", "used", "I", false)
  | 9 => ("PageStoreModel", "dictionaries", "I", false)
  | 10 => ("PageStoreModel", "owners", "[S", true)
  | 11 => ("PageStoreModel", "keyKinds", "[B", true)
  | 12 => ("PageStoreModel", "keyNumbers", "[I", true)
  | 13 => ("PageStoreModel", "valueKinds", "[B", true)
  | 14 => ("PageStoreModel", "valueNumbers", "[I", true)
  | 15 => ("PageStoreModel", "gone", "[Z", true)
  | 16 => ("PageStoreModel", "keys", "I", false)
  | 17 => ("PageStoreModel", "counts", "[I", true)
  | 18 => ("PageStoreModel", "begins", "[I", true)
  | 19 => ("PageStoreModel", "saves", "I", false)
  | 20 => ("PageStoreModel", "whats", "[I", true)
  | 21 => ("PageStoreModel", "oldKinds", "[B", true)
  | 22 => ("PageStoreModel", "oldNumbers", "[I", true)
  | 23 => ("PageStoreModel", "oldGone", "[Z", true)
  | 24 => ("PageStoreModel", "size", "I", false)
  | 25 => ("PageStoreModel", "cursorKind", "I", false)
  | _ => ("PageStoreModel", "cursorNumber", "I", false)
def t_Mod : Nat → FieldType := fun k => match k with
  | 0 => .array .byte
  | 1 => .array .int
  | 2 => .array .int
  | 3 => .int
  | 4 => .array .byte
  | 5 => .array .int
  | 6 => .int
  | 7 => .array .byte
  | 8 => .int
  | 9 => .int
  | 10 => .array .short
  | 11 => .array .byte
  | 12 => .array .int
  | 13 => .array .byte
  | 14 => .array .int
  | 15 => .array .boolean
  | 16 => .int
  | 17 => .array .int
  | 18 => .array .int
  | 19 => .int
  | 20 => .array .int
  | 21 => .array .byte
  | 22 => .array .int
  | 23 => .array .boolean
  | 24 => .int
  | 25 => .int
  | _ => .int
theorem n_Mod : ∀ a, a < 27 → ∀ b, b < 27 → a ≠ b → (F_Mod a).2.1 ≠ (F_Mod b).2.1 := by decide +kernel
theorem t_Mod_ok : ∀ k, k < 27 → parseFieldDescriptor (F_Mod k).2.2.1 = some (t_Mod k) := by decide +kernel
abbrev cMod : Nat := 6
theorem z_Mod : ∀ j, j < 27 → defaultValue (t_Mod j) = vp_V [.null, .null, .null, .int 0, .null, .null, .int 0, .null, .int 0, .int 0, .null, .null, .null, .null, .null, .null, .int 0, .null, .null, .int 0, .null, .null, .null, .null, .int 0, .int 0, .int 0] j := by intro j hj; match j, hj with | 0, _ => rfl | 1, _ => rfl | 2, _ => rfl | 3, _ => rfl | 4, _ => rfl | 5, _ => rfl | 6, _ => rfl | 7, _ => rfl | 8, _ => rfl | 9, _ => rfl | 10, _ => rfl | 11, _ => rfl | 12, _ => rfl | 13, _ => rfl | 14, _ => rfl | 15, _ => rfl | 16, _ => rfl | 17, _ => rfl | 18, _ => rfl | 19, _ => rfl | 20, _ => rfl | 21, _ => rfl | 22, _ => rfl | 23, _ => rfl | 24, _ => rfl | 25, _ => rfl | 26, _ => rfl | n + 27, h => exact absurd h (by omega)
theorem i_Mod : ∀ w ∈ u_ws R_Mod F_Mod 27, w ∈ ps_tbl := by decide +kernel
abbrev classes : List vw_C := [(R_Col, F_Col, 2), (R_Val, F_Val, 2), (R_Row, F_Row, 3), (R_Key, F_Key, 4), (R_Mem, F_Mem, 3), (R_PS, F_PS, 10), (R_Mod, F_Mod, 27)]
def y_PS_init : MethodName := ⟨"PageStore", "<init>", "()V"⟩
def w_PS_init : List Cond := .code y_PS_init prog_1_method_1_code 1 none :: ps_tbl
theorem e_PS_init : y_PS_init.cls ≠ "java/lang/invoke/MethodHandle" ∧ y_PS_init.cls ≠ "java/lang/invoke/VarHandle" ∧ (parseMethodDescriptor y_PS_init.desc).map (fun d => d.parameters.length) = some 0 := by decide +kernel
def y_Col_init : MethodName := ⟨"PageStore$Column", "<init>", "(I)V"⟩
def w_Col_init : List Cond := .code y_Col_init prog_2_method_1_code 2 none :: ps_tbl
theorem e_Col_init : y_Col_init.cls ≠ "java/lang/invoke/MethodHandle" ∧ y_Col_init.cls ≠ "java/lang/invoke/VarHandle" ∧ (parseMethodDescriptor y_Col_init.desc).map (fun d => d.parameters.length) = some 1 := by decide +kernel
def y_Row_init : MethodName := ⟨"PageStore$Rows", "<init>", "()V"⟩
def w_Row_init : List Cond := .code y_Row_init prog_5_method_1_code 1 none :: ps_tbl
theorem e_Row_init : y_Row_init.cls ≠ "java/lang/invoke/MethodHandle" ∧ y_Row_init.cls ≠ "java/lang/invoke/VarHandle" ∧ (parseMethodDescriptor y_Row_init.desc).map (fun d => d.parameters.length) = some 0 := by decide +kernel
def y_Val_init : MethodName := ⟨"PageStore$Values", "<init>", "(I)V"⟩
def w_Val_init : List Cond := .code y_Val_init prog_6_method_1_code 2 none :: ps_tbl
theorem e_Val_init : y_Val_init.cls ≠ "java/lang/invoke/MethodHandle" ∧ y_Val_init.cls ≠ "java/lang/invoke/VarHandle" ∧ (parseMethodDescriptor y_Val_init.desc).map (fun d => d.parameters.length) = some 1 := by decide +kernel
def y_Key_init : MethodName := ⟨"PageStore$Keys", "<init>", "()V"⟩
def w_Key_init : List Cond := .code y_Key_init prog_3_method_1_code 1 none :: ps_tbl
theorem e_Key_init : y_Key_init.cls ≠ "java/lang/invoke/MethodHandle" ∧ y_Key_init.cls ≠ "java/lang/invoke/VarHandle" ∧ (parseMethodDescriptor y_Key_init.desc).map (fun d => d.parameters.length) = some 0 := by decide +kernel
def y_Mem_init : MethodName := ⟨"PageStore$Memories", "<init>", "()V"⟩
def w_Mem_init : List Cond := .code y_Mem_init prog_4_method_1_code 1 none :: ps_tbl
theorem e_Mem_init : y_Mem_init.cls ≠ "java/lang/invoke/MethodHandle" ∧ y_Mem_init.cls ≠ "java/lang/invoke/VarHandle" ∧ (parseMethodDescriptor y_Mem_init.desc).map (fun d => d.parameters.length) = some 0 := by decide +kernel
def y_PS_values : MethodName := ⟨"PageStore", "values", "(I)I"⟩
def w_PS_values : List Cond := .code y_PS_values prog_1_method_2_code 3 (some .int) :: ps_tbl
theorem e_PS_values : y_PS_values.cls ≠ "java/lang/invoke/MethodHandle" ∧ y_PS_values.cls ≠ "java/lang/invoke/VarHandle" ∧ (parseMethodDescriptor y_PS_values.desc).map (fun d => d.parameters.length) = some 1 := by decide +kernel
def y_PS_noRowLeft : MethodName := ⟨"PageStore", "noRowLeft", "()Z"⟩
def w_PS_noRowLeft : List Cond := .code y_PS_noRowLeft prog_1_method_28_code 1 (some .boolean) :: ps_tbl
theorem e_PS_noRowLeft : y_PS_noRowLeft.cls ≠ "java/lang/invoke/MethodHandle" ∧ y_PS_noRowLeft.cls ≠ "java/lang/invoke/VarHandle" ∧ (parseMethodDescriptor y_PS_noRowLeft.desc).map (fun d => d.parameters.length) = some 0 := by decide +kernel
def y_Val_wipe : MethodName := ⟨"PageStore$Values", "wipe", "(II)V"⟩
def w_Val_wipe : List Cond := .code y_Val_wipe prog_6_method_3_code 3 none :: ps_tbl
theorem e_Val_wipe : y_Val_wipe.cls ≠ "java/lang/invoke/MethodHandle" ∧ y_Val_wipe.cls ≠ "java/lang/invoke/VarHandle" ∧ (parseMethodDescriptor y_Val_wipe.desc).map (fun d => d.parameters.length) = some 2 := by decide +kernel
def y_Col_wipe : MethodName := ⟨"PageStore$Column", "wipe", "(II)V"⟩
def w_Col_wipe : List Cond := .code y_Col_wipe prog_2_method_4_code 4 none :: ps_tbl
theorem e_Col_wipe : y_Col_wipe.cls ≠ "java/lang/invoke/MethodHandle" ∧ y_Col_wipe.cls ≠ "java/lang/invoke/VarHandle" ∧ (parseMethodDescriptor y_Col_wipe.desc).map (fun d => d.parameters.length) = some 2 := by decide +kernel
def y_Arr_fill : MethodName := ⟨"java/util/Arrays", "fill", "([IIII)V"⟩
def w_Arr_fill : List Cond := .code y_Arr_fill prog_12_method_104_code 5 none :: ps_tbl
theorem e_Arr_fill : y_Arr_fill.cls ≠ "java/lang/invoke/MethodHandle" ∧ y_Arr_fill.cls ≠ "java/lang/invoke/VarHandle" ∧ (parseMethodDescriptor y_Arr_fill.desc).map (fun d => d.parameters.length) = some 4 := by decide +kernel
def y_Arr_rangeCheck : MethodName := ⟨"java/util/Arrays", "rangeCheck", "(III)V"⟩
def w_Arr_rangeCheck : List Cond := .code y_Arr_rangeCheck prog_12_method_30_code 3 none :: ps_tbl
theorem e_Arr_rangeCheck : y_Arr_rangeCheck.cls ≠ "java/lang/invoke/MethodHandle" ∧ y_Arr_rangeCheck.cls ≠ "java/lang/invoke/VarHandle" ∧ (parseMethodDescriptor y_Arr_rangeCheck.desc).map (fun d => d.parameters.length) = some 3 := by decide +kernel
def y_PS_addRow : MethodName := ⟨"PageStore", "addRow", "(III)I"⟩
def w_PS_addRow : List Cond := .code y_PS_addRow prog_1_method_29_code 4 (some .int) :: ps_tbl
theorem e_PS_addRow : y_PS_addRow.cls ≠ "java/lang/invoke/MethodHandle" ∧ y_PS_addRow.cls ≠ "java/lang/invoke/VarHandle" ∧ (parseMethodDescriptor y_PS_addRow.desc).map (fun d => d.parameters.length) = some 3 := by decide +kernel
def y_Row_write : MethodName := ⟨"PageStore$Rows", "write", "(IIII)V"⟩
def w_Row_write : List Cond := .code y_Row_write prog_5_method_2_code 5 none :: ps_tbl
theorem e_Row_write : y_Row_write.cls ≠ "java/lang/invoke/MethodHandle" ∧ y_Row_write.cls ≠ "java/lang/invoke/VarHandle" ∧ (parseMethodDescriptor y_Row_write.desc).map (fun d => d.parameters.length) = some 4 := by decide +kernel
def y_Col_put : MethodName := ⟨"PageStore$Column", "put", "(II)V"⟩
def w_Col_put : List Cond := .code y_Col_put prog_2_method_3_code 4 none :: ps_tbl
theorem e_Col_put : y_Col_put.cls ≠ "java/lang/invoke/MethodHandle" ∧ y_Col_put.cls ≠ "java/lang/invoke/VarHandle" ∧ (parseMethodDescriptor y_Col_put.desc).map (fun d => d.parameters.length) = some 2 := by decide +kernel
def y_Arr_copyOf : MethodName := ⟨"java/util/Arrays", "copyOf", "([II)[I"⟩
def w_Arr_copyOf : List Cond := .code y_Arr_copyOf prog_12_method_123_code 3 (some (.array .int)) :: ps_tbl
theorem e_Arr_copyOf : y_Arr_copyOf.cls ≠ "java/lang/invoke/MethodHandle" ∧ y_Arr_copyOf.cls ≠ "java/lang/invoke/VarHandle" ∧ (parseMethodDescriptor y_Arr_copyOf.desc).map (fun d => d.parameters.length) = some 2 := by decide +kernel
def y_PS_bytes : MethodName := ⟨"PageStore", "bytes", "(I)I"⟩
def w_PS_bytes : List Cond := .code y_PS_bytes prog_1_method_3_code 3 (some .int) :: ps_tbl
theorem e_PS_bytes : y_PS_bytes.cls ≠ "java/lang/invoke/MethodHandle" ∧ y_PS_bytes.cls ≠ "java/lang/invoke/VarHandle" ∧ (parseMethodDescriptor y_PS_bytes.desc).map (fun d => d.parameters.length) = some 1 := by decide +kernel
def y_PS_part : MethodName := ⟨"PageStore", "part", "(III)I"⟩
def w_PS_part : List Cond := .code y_PS_part prog_1_method_4_code 4 (some .int) :: ps_tbl
theorem e_PS_part : y_PS_part.cls ≠ "java/lang/invoke/MethodHandle" ∧ y_PS_part.cls ≠ "java/lang/invoke/VarHandle" ∧ (parseMethodDescriptor y_PS_part.desc).map (fun d => d.parameters.length) = some 3 := by decide +kernel
def y_PS_isRow : MethodName := ⟨"PageStore", "isRow", "(I)Z"⟩
def w_PS_isRow : List Cond := .code y_PS_isRow prog_1_method_24_code 2 (some .boolean) :: ps_tbl
theorem e_PS_isRow : y_PS_isRow.cls ≠ "java/lang/invoke/MethodHandle" ∧ y_PS_isRow.cls ≠ "java/lang/invoke/VarHandle" ∧ (parseMethodDescriptor y_PS_isRow.desc).map (fun d => d.parameters.length) = some 1 := by decide +kernel
def y_Col_at : MethodName := ⟨"PageStore$Column", "at", "(I)I"⟩
def w_Col_at : List Cond := .code y_Col_at prog_2_method_2_code 2 (some .int) :: ps_tbl
theorem e_Col_at : y_Col_at.cls ≠ "java/lang/invoke/MethodHandle" ∧ y_Col_at.cls ≠ "java/lang/invoke/VarHandle" ∧ (parseMethodDescriptor y_Col_at.desc).map (fun d => d.parameters.length) = some 1 := by decide +kernel
def y_PS_sort : MethodName := ⟨"PageStore", "sort", "(I)I"⟩
def w_PS_sort : List Cond := .code y_PS_sort prog_1_method_5_code 2 (some .int) :: ps_tbl
theorem e_PS_sort : y_PS_sort.cls ≠ "java/lang/invoke/MethodHandle" ∧ y_PS_sort.cls ≠ "java/lang/invoke/VarHandle" ∧ (parseMethodDescriptor y_PS_sort.desc).map (fun d => d.parameters.length) = some 1 := by decide +kernel
def y_PS_length : MethodName := ⟨"PageStore", "length", "(I)I"⟩
def w_PS_length : List Cond := .code y_PS_length prog_1_method_6_code 2 (some .int) :: ps_tbl
theorem e_PS_length : y_PS_length.cls ≠ "java/lang/invoke/MethodHandle" ∧ y_PS_length.cls ≠ "java/lang/invoke/VarHandle" ∧ (parseMethodDescriptor y_PS_length.desc).map (fun d => d.parameters.length) = some 1 := by decide +kernel
def y_PS_set : MethodName := ⟨"PageStore", "set", "(IIII)I"⟩
def w_PS_set : List Cond := .code y_PS_set prog_1_method_7_code 6 (some .int) :: ps_tbl
theorem e_PS_set : y_PS_set.cls ≠ "java/lang/invoke/MethodHandle" ∧ y_PS_set.cls ≠ "java/lang/invoke/VarHandle" ∧ (parseMethodDescriptor y_PS_set.desc).map (fun d => d.parameters.length) = some 4 := by decide +kernel
def y_PS_indexIn : MethodName := ⟨"PageStore", "indexIn", "(III)I"⟩
def w_PS_indexIn : List Cond := .code y_PS_indexIn prog_1_method_30_code 4 (some .int) :: ps_tbl
theorem e_PS_indexIn : y_PS_indexIn.cls ≠ "java/lang/invoke/MethodHandle" ∧ y_PS_indexIn.cls ≠ "java/lang/invoke/VarHandle" ∧ (parseMethodDescriptor y_PS_indexIn.desc).map (fun d => d.parameters.length) = some 3 := by decide +kernel
def y_PS_isKind : MethodName := ⟨"PageStore", "isKind", "(II)Z"⟩
def w_PS_isKind : List Cond := .code y_PS_isKind prog_1_method_23_code 2 (some .boolean) :: ps_tbl
theorem e_PS_isKind : y_PS_isKind.cls ≠ "java/lang/invoke/MethodHandle" ∧ y_PS_isKind.cls ≠ "java/lang/invoke/VarHandle" ∧ (parseMethodDescriptor y_PS_isKind.desc).map (fun d => d.parameters.length) = some 2 := by decide +kernel
def y_PS_remember : MethodName := ⟨"PageStore", "remember", "(II)Z"⟩
def w_PS_remember : List Cond := .code y_PS_remember prog_1_method_34_code 4 (some .boolean) :: ps_tbl
theorem e_PS_remember : y_PS_remember.cls ≠ "java/lang/invoke/MethodHandle" ∧ y_PS_remember.cls ≠ "java/lang/invoke/VarHandle" ∧ (parseMethodDescriptor y_PS_remember.desc).map (fun d => d.parameters.length) = some 2 := by decide +kernel
def y_PS_mustRemember : MethodName := ⟨"PageStore", "mustRemember", "(II)Z"⟩
def w_PS_mustRemember : List Cond := .code y_PS_mustRemember prog_1_method_35_code 4 (some .boolean) :: ps_tbl
theorem e_PS_mustRemember : y_PS_mustRemember.cls ≠ "java/lang/invoke/MethodHandle" ∧ y_PS_mustRemember.cls ≠ "java/lang/invoke/VarHandle" ∧ (parseMethodDescriptor y_PS_mustRemember.desc).map (fun d => d.parameters.length) = some 2 := by decide +kernel
def y_PS_countAtSave : MethodName := ⟨"PageStore", "countAtSave", "(II)I"⟩
def w_PS_countAtSave : List Cond := .code y_PS_countAtSave prog_1_method_33_code 3 (some .int) :: ps_tbl
theorem e_PS_countAtSave : y_PS_countAtSave.cls ≠ "java/lang/invoke/MethodHandle" ∧ y_PS_countAtSave.cls ≠ "java/lang/invoke/VarHandle" ∧ (parseMethodDescriptor y_PS_countAtSave.desc).map (fun d => d.parameters.length) = some 2 := by decide +kernel
def y_Mem_hold : MethodName := ⟨"PageStore$Memories", "hold", "(IIII)Z"⟩
def w_Mem_hold : List Cond := .code y_Mem_hold prog_4_method_3_code 6 (some .boolean) :: ps_tbl
theorem e_Mem_hold : y_Mem_hold.cls ≠ "java/lang/invoke/MethodHandle" ∧ y_Mem_hold.cls ≠ "java/lang/invoke/VarHandle" ∧ (parseMethodDescriptor y_Mem_hold.desc).map (fun d => d.parameters.length) = some 4 := by decide +kernel
def y_PS_valuesOf : MethodName := ⟨"PageStore", "valuesOf", "(I)LPageStore$Values;"⟩
def w_PS_valuesOf : List Cond := .code y_PS_valuesOf prog_1_method_37_code 2 (some (.object "PageStore$Values")) :: ps_tbl
theorem e_PS_valuesOf : y_PS_valuesOf.cls ≠ "java/lang/invoke/MethodHandle" ∧ y_PS_valuesOf.cls ≠ "java/lang/invoke/VarHandle" ∧ (parseMethodDescriptor y_PS_valuesOf.desc).map (fun d => d.parameters.length) = some 1 := by decide +kernel
def y_Mem_write : MethodName := ⟨"PageStore$Memories", "write", "(IIILPageStore$Values;)V"⟩
def w_Mem_write : List Cond := .code y_Mem_write prog_4_method_2_code 5 none :: ps_tbl
theorem e_Mem_write : y_Mem_write.cls ≠ "java/lang/invoke/MethodHandle" ∧ y_Mem_write.cls ≠ "java/lang/invoke/VarHandle" ∧ (parseMethodDescriptor y_Mem_write.desc).map (fun d => d.parameters.length) = some 4 := by decide +kernel
def y_Val_write : MethodName := ⟨"PageStore$Values", "write", "(III)V"⟩
def w_Val_write : List Cond := .code y_Val_write prog_6_method_2_code 4 none :: ps_tbl
theorem e_Val_write : y_Val_write.cls ≠ "java/lang/invoke/MethodHandle" ∧ y_Val_write.cls ≠ "java/lang/invoke/VarHandle" ∧ (parseMethodDescriptor y_Val_write.desc).map (fun d => d.parameters.length) = some 3 := by decide +kernel
def y_PS_get : MethodName := ⟨"PageStore", "get", "(II)I"⟩
def w_PS_get : List Cond := .code y_PS_get prog_1_method_8_code 4 (some .int) :: ps_tbl
theorem e_PS_get : y_PS_get.cls ≠ "java/lang/invoke/MethodHandle" ∧ y_PS_get.cls ≠ "java/lang/invoke/VarHandle" ∧ (parseMethodDescriptor y_PS_get.desc).map (fun d => d.parameters.length) = some 2 := by decide +kernel
def y_PS_number : MethodName := ⟨"PageStore", "number", "(II)I"⟩
def w_PS_number : List Cond := .code y_PS_number prog_1_method_9_code 4 (some .int) :: ps_tbl
theorem e_PS_number : y_PS_number.cls ≠ "java/lang/invoke/MethodHandle" ∧ y_PS_number.cls ≠ "java/lang/invoke/VarHandle" ∧ (parseMethodDescriptor y_PS_number.desc).map (fun d => d.parameters.length) = some 2 := by decide +kernel
def y_PS_setByte : MethodName := ⟨"PageStore", "setByte", "(III)I"⟩
def w_PS_setByte : List Cond := .code y_PS_setByte prog_1_method_10_code 5 (some .int) :: ps_tbl
theorem e_PS_setByte : y_PS_setByte.cls ≠ "java/lang/invoke/MethodHandle" ∧ y_PS_setByte.cls ≠ "java/lang/invoke/VarHandle" ∧ (parseMethodDescriptor y_PS_setByte.desc).map (fun d => d.parameters.length) = some 3 := by decide +kernel
def y_PS_dictionary : MethodName := ⟨"PageStore", "dictionary", "()I"⟩
def w_PS_dictionary : List Cond := .code y_PS_dictionary prog_1_method_11_code 1 (some .int) :: ps_tbl
theorem e_PS_dictionary : y_PS_dictionary.cls ≠ "java/lang/invoke/MethodHandle" ∧ y_PS_dictionary.cls ≠ "java/lang/invoke/VarHandle" ∧ (parseMethodDescriptor y_PS_dictionary.desc).map (fun d => d.parameters.length) = some 0 := by decide +kernel
def y_PS_define : MethodName := ⟨"PageStore", "define", "(IIIII)I"⟩
def w_PS_define : List Cond := .code y_PS_define prog_1_method_12_code 7 (some .int) :: ps_tbl
theorem e_PS_define : y_PS_define.cls ≠ "java/lang/invoke/MethodHandle" ∧ y_PS_define.cls ≠ "java/lang/invoke/VarHandle" ∧ (parseMethodDescriptor y_PS_define.desc).map (fun d => d.parameters.length) = some 5 := by decide +kernel
def y_PS_isKeyPossible : MethodName := ⟨"PageStore", "isKeyPossible", "(II)Z"⟩
def w_PS_isKeyPossible : List Cond := .code y_PS_isKeyPossible prog_1_method_26_code 3 (some .boolean) :: ps_tbl
theorem e_PS_isKeyPossible : y_PS_isKeyPossible.cls ≠ "java/lang/invoke/MethodHandle" ∧ y_PS_isKeyPossible.cls ≠ "java/lang/invoke/VarHandle" ∧ (parseMethodDescriptor y_PS_isKeyPossible.desc).map (fun d => d.parameters.length) = some 2 := by decide +kernel
def y_PS_isDictionary : MethodName := ⟨"PageStore", "isDictionary", "(I)Z"⟩
def w_PS_isDictionary : List Cond := .code y_PS_isDictionary prog_1_method_25_code 2 (some .boolean) :: ps_tbl
theorem e_PS_isDictionary : y_PS_isDictionary.cls ≠ "java/lang/invoke/MethodHandle" ∧ y_PS_isDictionary.cls ≠ "java/lang/invoke/VarHandle" ∧ (parseMethodDescriptor y_PS_isDictionary.desc).map (fun d => d.parameters.length) = some 1 := by decide +kernel
def y_Key_indexOf : MethodName := ⟨"PageStore$Keys", "indexOf", "(IIII)I"⟩
def w_Key_indexOf : List Cond := .code y_Key_indexOf prog_3_method_3_code 6 (some .int) :: ps_tbl
theorem e_Key_indexOf : y_Key_indexOf.cls ≠ "java/lang/invoke/MethodHandle" ∧ y_Key_indexOf.cls ≠ "java/lang/invoke/VarHandle" ∧ (parseMethodDescriptor y_Key_indexOf.desc).map (fun d => d.parameters.length) = some 4 := by decide +kernel
def y_PS_addKey : MethodName := ⟨"PageStore", "addKey", "(IIIII)I"⟩
def w_PS_addKey : List Cond := .code y_PS_addKey prog_1_method_31_code 7 (some .int) :: ps_tbl
theorem e_PS_addKey : y_PS_addKey.cls ≠ "java/lang/invoke/MethodHandle" ∧ y_PS_addKey.cls ≠ "java/lang/invoke/VarHandle" ∧ (parseMethodDescriptor y_PS_addKey.desc).map (fun d => d.parameters.length) = some 5 := by decide +kernel
def y_Key_write : MethodName := ⟨"PageStore$Keys", "write", "(IIII)V"⟩
def w_Key_write : List Cond := .code y_Key_write prog_3_method_2_code 5 none :: ps_tbl
theorem e_Key_write : y_Key_write.cls ≠ "java/lang/invoke/MethodHandle" ∧ y_Key_write.cls ≠ "java/lang/invoke/VarHandle" ∧ (parseMethodDescriptor y_Key_write.desc).map (fun d => d.parameters.length) = some 4 := by decide +kernel
def y_PS_find : MethodName := ⟨"PageStore", "find", "(III)I"⟩
def w_PS_find : List Cond := .code y_PS_find prog_1_method_13_code 5 (some .int) :: ps_tbl
theorem e_PS_find : y_PS_find.cls ≠ "java/lang/invoke/MethodHandle" ∧ y_PS_find.cls ≠ "java/lang/invoke/VarHandle" ∧ (parseMethodDescriptor y_PS_find.desc).map (fun d => d.parameters.length) = some 3 := by decide +kernel
def y_Key_indexIfThere : MethodName := ⟨"PageStore$Keys", "indexIfThere", "(IIII)I"⟩
def w_Key_indexIfThere : List Cond := .code y_Key_indexIfThere prog_3_method_4_code 6 (some .int) :: ps_tbl
theorem e_Key_indexIfThere : y_Key_indexIfThere.cls ≠ "java/lang/invoke/MethodHandle" ∧ y_Key_indexIfThere.cls ≠ "java/lang/invoke/VarHandle" ∧ (parseMethodDescriptor y_Key_indexIfThere.desc).map (fun d => d.parameters.length) = some 4 := by decide +kernel
def y_Key_isThere : MethodName := ⟨"PageStore$Keys", "isThere", "(II)Z"⟩
def w_Key_isThere : List Cond := .code y_Key_isThere prog_3_method_7_code 3 (some .boolean) :: ps_tbl
theorem e_Key_isThere : y_Key_isThere.cls ≠ "java/lang/invoke/MethodHandle" ∧ y_Key_isThere.cls ≠ "java/lang/invoke/VarHandle" ∧ (parseMethodDescriptor y_Key_isThere.desc).map (fun d => d.parameters.length) = some 2 := by decide +kernel
def y_PS_found : MethodName := ⟨"PageStore", "found", "(III)I"⟩
def w_PS_found : List Cond := .code y_PS_found prog_1_method_14_code 5 (some .int) :: ps_tbl
theorem e_PS_found : y_PS_found.cls ≠ "java/lang/invoke/MethodHandle" ∧ y_PS_found.cls ≠ "java/lang/invoke/VarHandle" ∧ (parseMethodDescriptor y_PS_found.desc).map (fun d => d.parameters.length) = some 3 := by decide +kernel
def y_PS_undefine : MethodName := ⟨"PageStore", "undefine", "(III)I"⟩
def w_PS_undefine : List Cond := .code y_PS_undefine prog_1_method_15_code 5 (some .int) :: ps_tbl
theorem e_PS_undefine : y_PS_undefine.cls ≠ "java/lang/invoke/MethodHandle" ∧ y_PS_undefine.cls ≠ "java/lang/invoke/VarHandle" ∧ (parseMethodDescriptor y_PS_undefine.desc).map (fun d => d.parameters.length) = some 3 := by decide +kernel
def y_PS_count : MethodName := ⟨"PageStore", "count", "(I)I"⟩
def w_PS_count : List Cond := .code y_PS_count prog_1_method_16_code 2 (some .int) :: ps_tbl
theorem e_PS_count : y_PS_count.cls ≠ "java/lang/invoke/MethodHandle" ∧ y_PS_count.cls ≠ "java/lang/invoke/VarHandle" ∧ (parseMethodDescriptor y_PS_count.desc).map (fun d => d.parameters.length) = some 1 := by decide +kernel
def y_Key_howManyThere : MethodName := ⟨"PageStore$Keys", "howManyThere", "(II)I"⟩
def w_Key_howManyThere : List Cond := .code y_Key_howManyThere prog_3_method_6_code 5 (some .int) :: ps_tbl
theorem e_Key_howManyThere : y_Key_howManyThere.cls ≠ "java/lang/invoke/MethodHandle" ∧ y_Key_howManyThere.cls ≠ "java/lang/invoke/VarHandle" ∧ (parseMethodDescriptor y_Key_howManyThere.desc).map (fun d => d.parameters.length) = some 2 := by decide +kernel
def y_PS_next : MethodName := ⟨"PageStore", "next", "(III)I"⟩
def w_PS_next : List Cond := .code y_PS_next prog_1_method_17_code 6 (some .int) :: ps_tbl
theorem e_PS_next : y_PS_next.cls ≠ "java/lang/invoke/MethodHandle" ∧ y_PS_next.cls ≠ "java/lang/invoke/VarHandle" ∧ (parseMethodDescriptor y_PS_next.desc).map (fun d => d.parameters.length) = some 3 := by decide +kernel
def y_Key_firstThere : MethodName := ⟨"PageStore$Keys", "firstThere", "(III)I"⟩
def w_Key_firstThere : List Cond := .code y_Key_firstThere prog_3_method_5_code 5 (some .int) :: ps_tbl
theorem e_Key_firstThere : y_Key_firstThere.cls ≠ "java/lang/invoke/MethodHandle" ∧ y_Key_firstThere.cls ≠ "java/lang/invoke/VarHandle" ∧ (parseMethodDescriptor y_Key_firstThere.desc).map (fun d => d.parameters.length) = some 3 := by decide +kernel
def y_PS_moveCursor : MethodName := ⟨"PageStore", "moveCursor", "(I)I"⟩
def w_PS_moveCursor : List Cond := .code y_PS_moveCursor prog_1_method_32_code 2 (some .int) :: ps_tbl
theorem e_PS_moveCursor : y_PS_moveCursor.cls ≠ "java/lang/invoke/MethodHandle" ∧ y_PS_moveCursor.cls ≠ "java/lang/invoke/VarHandle" ∧ (parseMethodDescriptor y_PS_moveCursor.desc).map (fun d => d.parameters.length) = some 1 := by decide +kernel
def y_PS_cursorKind : MethodName := ⟨"PageStore", "cursorKind", "()I"⟩
def w_PS_cursorKind : List Cond := .code y_PS_cursorKind prog_1_method_18_code 1 (some .int) :: ps_tbl
theorem e_PS_cursorKind : y_PS_cursorKind.cls ≠ "java/lang/invoke/MethodHandle" ∧ y_PS_cursorKind.cls ≠ "java/lang/invoke/VarHandle" ∧ (parseMethodDescriptor y_PS_cursorKind.desc).map (fun d => d.parameters.length) = some 0 := by decide +kernel
def y_PS_cursorNumber : MethodName := ⟨"PageStore", "cursorNumber", "()I"⟩
def w_PS_cursorNumber : List Cond := .code y_PS_cursorNumber prog_1_method_19_code 1 (some .int) :: ps_tbl
theorem e_PS_cursorNumber : y_PS_cursorNumber.cls ≠ "java/lang/invoke/MethodHandle" ∧ y_PS_cursorNumber.cls ≠ "java/lang/invoke/VarHandle" ∧ (parseMethodDescriptor y_PS_cursorNumber.desc).map (fun d => d.parameters.length) = some 0 := by decide +kernel
def y_PS_save : MethodName := ⟨"PageStore", "save", "()I"⟩
def w_PS_save : List Cond := .code y_PS_save prog_1_method_20_code 2 (some .int) :: ps_tbl
theorem e_PS_save : y_PS_save.cls ≠ "java/lang/invoke/MethodHandle" ∧ y_PS_save.cls ≠ "java/lang/invoke/VarHandle" ∧ (parseMethodDescriptor y_PS_save.desc).map (fun d => d.parameters.length) = some 0 := by decide +kernel
def y_PS_restore : MethodName := ⟨"PageStore", "restore", "(I)I"⟩
def w_PS_restore : List Cond := .code y_PS_restore prog_1_method_21_code 3 (some .int) :: ps_tbl
theorem e_PS_restore : y_PS_restore.cls ≠ "java/lang/invoke/MethodHandle" ∧ y_PS_restore.cls ≠ "java/lang/invoke/VarHandle" ∧ (parseMethodDescriptor y_PS_restore.desc).map (fun d => d.parameters.length) = some 1 := by decide +kernel
def y_PS_isSave : MethodName := ⟨"PageStore", "isSave", "(I)Z"⟩
def w_PS_isSave : List Cond := .code y_PS_isSave prog_1_method_27_code 2 (some .boolean) :: ps_tbl
theorem e_PS_isSave : y_PS_isSave.cls ≠ "java/lang/invoke/MethodHandle" ∧ y_PS_isSave.cls ≠ "java/lang/invoke/VarHandle" ∧ (parseMethodDescriptor y_PS_isSave.desc).map (fun d => d.parameters.length) = some 1 := by decide +kernel
def y_PS_putBack : MethodName := ⟨"PageStore", "putBack", "(I)V"⟩
def w_PS_putBack : List Cond := .code y_PS_putBack prog_1_method_36_code 4 none :: ps_tbl
theorem e_PS_putBack : y_PS_putBack.cls ≠ "java/lang/invoke/MethodHandle" ∧ y_PS_putBack.cls ≠ "java/lang/invoke/VarHandle" ∧ (parseMethodDescriptor y_PS_putBack.desc).map (fun d => d.parameters.length) = some 1 := by decide +kernel
def y_PS_noted : MethodName := ⟨"PageStore", "noted", "(II)I"⟩
def w_PS_noted : List Cond := .code y_PS_noted prog_1_method_22_code 3 (some .int) :: ps_tbl
theorem e_PS_noted : y_PS_noted.cls ≠ "java/lang/invoke/MethodHandle" ∧ y_PS_noted.cls ≠ "java/lang/invoke/VarHandle" ∧ (parseMethodDescriptor y_PS_noted.desc).map (fun d => d.parameters.length) = some 2 := by decide +kernel
def y_Mod_init : MethodName := ⟨"PageStoreModel", "<init>", "()V"⟩
def w_Mod_init : List Cond := .code y_Mod_init prog_8_method_1_code 1 none :: ps_tbl
theorem e_Mod_init : y_Mod_init.cls ≠ "java/lang/invoke/MethodHandle" ∧ y_Mod_init.cls ≠ "java/lang/invoke/VarHandle" ∧ (parseMethodDescriptor y_Mod_init.desc).map (fun d => d.parameters.length) = some 0 := by decide +kernel
def y_Mod_values : MethodName := ⟨"PageStoreModel", "values", "(I)I"⟩
def w_Mod_values : List Cond := .code y_Mod_values prog_8_method_3_code 3 (some .int) :: ps_tbl
theorem e_Mod_values : y_Mod_values.cls ≠ "java/lang/invoke/MethodHandle" ∧ y_Mod_values.cls ≠ "java/lang/invoke/VarHandle" ∧ (parseMethodDescriptor y_Mod_values.desc).map (fun d => d.parameters.length) = some 1 := by decide +kernel
def y_Mod_row : MethodName := ⟨"PageStoreModel", "row", "(III)I"⟩
def w_Mod_row : List Cond := .code y_Mod_row prog_8_method_2_code 4 (some .int) :: ps_tbl
theorem e_Mod_row : y_Mod_row.cls ≠ "java/lang/invoke/MethodHandle" ∧ y_Mod_row.cls ≠ "java/lang/invoke/VarHandle" ∧ (parseMethodDescriptor y_Mod_row.desc).map (fun d => d.parameters.length) = some 3 := by decide +kernel
def y_Mod_bytes : MethodName := ⟨"PageStoreModel", "bytes", "(I)I"⟩
def w_Mod_bytes : List Cond := .code y_Mod_bytes prog_8_method_4_code 3 (some .int) :: ps_tbl
theorem e_Mod_bytes : y_Mod_bytes.cls ≠ "java/lang/invoke/MethodHandle" ∧ y_Mod_bytes.cls ≠ "java/lang/invoke/VarHandle" ∧ (parseMethodDescriptor y_Mod_bytes.desc).map (fun d => d.parameters.length) = some 1 := by decide +kernel
def y_Mod_part : MethodName := ⟨"PageStoreModel", "part", "(III)I"⟩
def w_Mod_part : List Cond := .code y_Mod_part prog_8_method_6_code 4 (some .int) :: ps_tbl
theorem e_Mod_part : y_Mod_part.cls ≠ "java/lang/invoke/MethodHandle" ∧ y_Mod_part.cls ≠ "java/lang/invoke/VarHandle" ∧ (parseMethodDescriptor y_Mod_part.desc).map (fun d => d.parameters.length) = some 3 := by decide +kernel
def y_Mod_isRow : MethodName := ⟨"PageStoreModel", "isRow", "(I)Z"⟩
def w_Mod_isRow : List Cond := .code y_Mod_isRow prog_8_method_5_code 2 (some .boolean) :: ps_tbl
theorem e_Mod_isRow : y_Mod_isRow.cls ≠ "java/lang/invoke/MethodHandle" ∧ y_Mod_isRow.cls ≠ "java/lang/invoke/VarHandle" ∧ (parseMethodDescriptor y_Mod_isRow.desc).map (fun d => d.parameters.length) = some 1 := by decide +kernel
def y_Mod_sort : MethodName := ⟨"PageStoreModel", "sort", "(I)I"⟩
def w_Mod_sort : List Cond := .code y_Mod_sort prog_8_method_7_code 2 (some .int) :: ps_tbl
theorem e_Mod_sort : y_Mod_sort.cls ≠ "java/lang/invoke/MethodHandle" ∧ y_Mod_sort.cls ≠ "java/lang/invoke/VarHandle" ∧ (parseMethodDescriptor y_Mod_sort.desc).map (fun d => d.parameters.length) = some 1 := by decide +kernel
def y_Mod_length : MethodName := ⟨"PageStoreModel", "length", "(I)I"⟩
def w_Mod_length : List Cond := .code y_Mod_length prog_8_method_8_code 2 (some .int) :: ps_tbl
theorem e_Mod_length : y_Mod_length.cls ≠ "java/lang/invoke/MethodHandle" ∧ y_Mod_length.cls ≠ "java/lang/invoke/VarHandle" ∧ (parseMethodDescriptor y_Mod_length.desc).map (fun d => d.parameters.length) = some 1 := by decide +kernel
def y_Mod_set : MethodName := ⟨"PageStoreModel", "set", "(IIII)I"⟩
def w_Mod_set : List Cond := .code y_Mod_set prog_8_method_12_code 6 (some .int) :: ps_tbl
theorem e_Mod_set : y_Mod_set.cls ≠ "java/lang/invoke/MethodHandle" ∧ y_Mod_set.cls ≠ "java/lang/invoke/VarHandle" ∧ (parseMethodDescriptor y_Mod_set.desc).map (fun d => d.parameters.length) = some 4 := by decide +kernel
def y_Mod_at : MethodName := ⟨"PageStoreModel", "at", "(II)I"⟩
def w_Mod_at : List Cond := .code y_Mod_at prog_8_method_9_code 3 (some .int) :: ps_tbl
theorem e_Mod_at : y_Mod_at.cls ≠ "java/lang/invoke/MethodHandle" ∧ y_Mod_at.cls ≠ "java/lang/invoke/VarHandle" ∧ (parseMethodDescriptor y_Mod_at.desc).map (fun d => d.parameters.length) = some 2 := by decide +kernel
def y_Mod_remember : MethodName := ⟨"PageStoreModel", "remember", "(I)Z"⟩
def w_Mod_remember : List Cond := .code y_Mod_remember prog_8_method_11_code 2 (some .boolean) :: ps_tbl
theorem e_Mod_remember : y_Mod_remember.cls ≠ "java/lang/invoke/MethodHandle" ∧ y_Mod_remember.cls ≠ "java/lang/invoke/VarHandle" ∧ (parseMethodDescriptor y_Mod_remember.desc).map (fun d => d.parameters.length) = some 1 := by decide +kernel
def y_Mod_isOpen : MethodName := ⟨"PageStoreModel", "isOpen", "(I)Z"⟩
def w_Mod_isOpen : List Cond := .code y_Mod_isOpen prog_8_method_10_code 4 (some .boolean) :: ps_tbl
theorem e_Mod_isOpen : y_Mod_isOpen.cls ≠ "java/lang/invoke/MethodHandle" ∧ y_Mod_isOpen.cls ≠ "java/lang/invoke/VarHandle" ∧ (parseMethodDescriptor y_Mod_isOpen.desc).map (fun d => d.parameters.length) = some 1 := by decide +kernel
def y_Mod_get : MethodName := ⟨"PageStoreModel", "get", "(II)I"⟩
def w_Mod_get : List Cond := .code y_Mod_get prog_8_method_13_code 4 (some .int) :: ps_tbl
theorem e_Mod_get : y_Mod_get.cls ≠ "java/lang/invoke/MethodHandle" ∧ y_Mod_get.cls ≠ "java/lang/invoke/VarHandle" ∧ (parseMethodDescriptor y_Mod_get.desc).map (fun d => d.parameters.length) = some 2 := by decide +kernel
def y_Mod_number : MethodName := ⟨"PageStoreModel", "number", "(II)I"⟩
def w_Mod_number : List Cond := .code y_Mod_number prog_8_method_14_code 4 (some .int) :: ps_tbl
theorem e_Mod_number : y_Mod_number.cls ≠ "java/lang/invoke/MethodHandle" ∧ y_Mod_number.cls ≠ "java/lang/invoke/VarHandle" ∧ (parseMethodDescriptor y_Mod_number.desc).map (fun d => d.parameters.length) = some 2 := by decide +kernel
def y_Mod_setByte : MethodName := ⟨"PageStoreModel", "setByte", "(III)I"⟩
def w_Mod_setByte : List Cond := .code y_Mod_setByte prog_8_method_15_code 5 (some .int) :: ps_tbl
theorem e_Mod_setByte : y_Mod_setByte.cls ≠ "java/lang/invoke/MethodHandle" ∧ y_Mod_setByte.cls ≠ "java/lang/invoke/VarHandle" ∧ (parseMethodDescriptor y_Mod_setByte.desc).map (fun d => d.parameters.length) = some 3 := by decide +kernel
def y_Mod_dictionary : MethodName := ⟨"PageStoreModel", "dictionary", "()I"⟩
def w_Mod_dictionary : List Cond := .code y_Mod_dictionary prog_8_method_16_code 1 (some .int) :: ps_tbl
theorem e_Mod_dictionary : y_Mod_dictionary.cls ≠ "java/lang/invoke/MethodHandle" ∧ y_Mod_dictionary.cls ≠ "java/lang/invoke/VarHandle" ∧ (parseMethodDescriptor y_Mod_dictionary.desc).map (fun d => d.parameters.length) = some 0 := by decide +kernel
def y_Mod_define : MethodName := ⟨"PageStoreModel", "define", "(IIIII)I"⟩
def w_Mod_define : List Cond := .code y_Mod_define prog_8_method_20_code 8 (some .int) :: ps_tbl
theorem e_Mod_define : y_Mod_define.cls ≠ "java/lang/invoke/MethodHandle" ∧ y_Mod_define.cls ≠ "java/lang/invoke/VarHandle" ∧ (parseMethodDescriptor y_Mod_define.desc).map (fun d => d.parameters.length) = some 5 := by decide +kernel
def y_Mod_isDictionary : MethodName := ⟨"PageStoreModel", "isDictionary", "(I)Z"⟩
def w_Mod_isDictionary : List Cond := .code y_Mod_isDictionary prog_8_method_17_code 2 (some .boolean) :: ps_tbl
theorem e_Mod_isDictionary : y_Mod_isDictionary.cls ≠ "java/lang/invoke/MethodHandle" ∧ y_Mod_isDictionary.cls ≠ "java/lang/invoke/VarHandle" ∧ (parseMethodDescriptor y_Mod_isDictionary.desc).map (fun d => d.parameters.length) = some 1 := by decide +kernel
def y_Mod_isKey : MethodName := ⟨"PageStoreModel", "isKey", "(I)Z"⟩
def w_Mod_isKey : List Cond := .code y_Mod_isKey prog_8_method_18_code 1 (some .boolean) :: ps_tbl
theorem e_Mod_isKey : y_Mod_isKey.cls ≠ "java/lang/invoke/MethodHandle" ∧ y_Mod_isKey.cls ≠ "java/lang/invoke/VarHandle" ∧ (parseMethodDescriptor y_Mod_isKey.desc).map (fun d => d.parameters.length) = some 1 := by decide +kernel
def y_Mod_key : MethodName := ⟨"PageStoreModel", "key", "(III)I"⟩
def w_Mod_key : List Cond := .code y_Mod_key prog_8_method_19_code 5 (some .int) :: ps_tbl
theorem e_Mod_key : y_Mod_key.cls ≠ "java/lang/invoke/MethodHandle" ∧ y_Mod_key.cls ≠ "java/lang/invoke/VarHandle" ∧ (parseMethodDescriptor y_Mod_key.desc).map (fun d => d.parameters.length) = some 3 := by decide +kernel
def y_Mod_find : MethodName := ⟨"PageStoreModel", "find", "(III)I"⟩
def w_Mod_find : List Cond := .code y_Mod_find prog_8_method_22_code 5 (some .int) :: ps_tbl
theorem e_Mod_find : y_Mod_find.cls ≠ "java/lang/invoke/MethodHandle" ∧ y_Mod_find.cls ≠ "java/lang/invoke/VarHandle" ∧ (parseMethodDescriptor y_Mod_find.desc).map (fun d => d.parameters.length) = some 3 := by decide +kernel
def y_Mod_there : MethodName := ⟨"PageStoreModel", "there", "(III)I"⟩
def w_Mod_there : List Cond := .code y_Mod_there prog_8_method_21_code 5 (some .int) :: ps_tbl
theorem e_Mod_there : y_Mod_there.cls ≠ "java/lang/invoke/MethodHandle" ∧ y_Mod_there.cls ≠ "java/lang/invoke/VarHandle" ∧ (parseMethodDescriptor y_Mod_there.desc).map (fun d => d.parameters.length) = some 3 := by decide +kernel
def y_Mod_found : MethodName := ⟨"PageStoreModel", "found", "(III)I"⟩
def w_Mod_found : List Cond := .code y_Mod_found prog_8_method_23_code 5 (some .int) :: ps_tbl
theorem e_Mod_found : y_Mod_found.cls ≠ "java/lang/invoke/MethodHandle" ∧ y_Mod_found.cls ≠ "java/lang/invoke/VarHandle" ∧ (parseMethodDescriptor y_Mod_found.desc).map (fun d => d.parameters.length) = some 3 := by decide +kernel
def y_Mod_undefine : MethodName := ⟨"PageStoreModel", "undefine", "(III)I"⟩
def w_Mod_undefine : List Cond := .code y_Mod_undefine prog_8_method_24_code 5 (some .int) :: ps_tbl
theorem e_Mod_undefine : y_Mod_undefine.cls ≠ "java/lang/invoke/MethodHandle" ∧ y_Mod_undefine.cls ≠ "java/lang/invoke/VarHandle" ∧ (parseMethodDescriptor y_Mod_undefine.desc).map (fun d => d.parameters.length) = some 3 := by decide +kernel
def y_Mod_count : MethodName := ⟨"PageStoreModel", "count", "(I)I"⟩
def w_Mod_count : List Cond := .code y_Mod_count prog_8_method_25_code 4 (some .int) :: ps_tbl
theorem e_Mod_count : y_Mod_count.cls ≠ "java/lang/invoke/MethodHandle" ∧ y_Mod_count.cls ≠ "java/lang/invoke/VarHandle" ∧ (parseMethodDescriptor y_Mod_count.desc).map (fun d => d.parameters.length) = some 1 := by decide +kernel
def y_Mod_next : MethodName := ⟨"PageStoreModel", "next", "(III)I"⟩
def w_Mod_next : List Cond := .code y_Mod_next prog_8_method_26_code 5 (some .int) :: ps_tbl
theorem e_Mod_next : y_Mod_next.cls ≠ "java/lang/invoke/MethodHandle" ∧ y_Mod_next.cls ≠ "java/lang/invoke/VarHandle" ∧ (parseMethodDescriptor y_Mod_next.desc).map (fun d => d.parameters.length) = some 3 := by decide +kernel
def y_Mod_cursorKind : MethodName := ⟨"PageStoreModel", "cursorKind", "()I"⟩
def w_Mod_cursorKind : List Cond := .code y_Mod_cursorKind prog_8_method_27_code 1 (some .int) :: ps_tbl
theorem e_Mod_cursorKind : y_Mod_cursorKind.cls ≠ "java/lang/invoke/MethodHandle" ∧ y_Mod_cursorKind.cls ≠ "java/lang/invoke/VarHandle" ∧ (parseMethodDescriptor y_Mod_cursorKind.desc).map (fun d => d.parameters.length) = some 0 := by decide +kernel
def y_Mod_cursorNumber : MethodName := ⟨"PageStoreModel", "cursorNumber", "()I"⟩
def w_Mod_cursorNumber : List Cond := .code y_Mod_cursorNumber prog_8_method_28_code 1 (some .int) :: ps_tbl
theorem e_Mod_cursorNumber : y_Mod_cursorNumber.cls ≠ "java/lang/invoke/MethodHandle" ∧ y_Mod_cursorNumber.cls ≠ "java/lang/invoke/VarHandle" ∧ (parseMethodDescriptor y_Mod_cursorNumber.desc).map (fun d => d.parameters.length) = some 0 := by decide +kernel
def y_Mod_save : MethodName := ⟨"PageStoreModel", "save", "()I"⟩
def w_Mod_save : List Cond := .code y_Mod_save prog_8_method_30_code 2 (some .int) :: ps_tbl
theorem e_Mod_save : y_Mod_save.cls ≠ "java/lang/invoke/MethodHandle" ∧ y_Mod_save.cls ≠ "java/lang/invoke/VarHandle" ∧ (parseMethodDescriptor y_Mod_save.desc).map (fun d => d.parameters.length) = some 0 := by decide +kernel
def y_Mod_now : MethodName := ⟨"PageStoreModel", "now", "(I)I"⟩
def w_Mod_now : List Cond := .code y_Mod_now prog_8_method_29_code 2 (some .int) :: ps_tbl
theorem e_Mod_now : y_Mod_now.cls ≠ "java/lang/invoke/MethodHandle" ∧ y_Mod_now.cls ≠ "java/lang/invoke/VarHandle" ∧ (parseMethodDescriptor y_Mod_now.desc).map (fun d => d.parameters.length) = some 1 := by decide +kernel
def y_Mod_restore : MethodName := ⟨"PageStoreModel", "restore", "(I)I"⟩
def w_Mod_restore : List Cond := .code y_Mod_restore prog_8_method_32_code 2 (some .int) :: ps_tbl
theorem e_Mod_restore : y_Mod_restore.cls ≠ "java/lang/invoke/MethodHandle" ∧ y_Mod_restore.cls ≠ "java/lang/invoke/VarHandle" ∧ (parseMethodDescriptor y_Mod_restore.desc).map (fun d => d.parameters.length) = some 1 := by decide +kernel
def y_Mod_back : MethodName := ⟨"PageStoreModel", "back", "()V"⟩
def w_Mod_back : List Cond := .code y_Mod_back prog_8_method_31_code 2 none :: ps_tbl
theorem e_Mod_back : y_Mod_back.cls ≠ "java/lang/invoke/MethodHandle" ∧ y_Mod_back.cls ≠ "java/lang/invoke/VarHandle" ∧ (parseMethodDescriptor y_Mod_back.desc).map (fun d => d.parameters.length) = some 0 := by decide +kernel
def y_Mod_noted : MethodName := ⟨"PageStoreModel", "noted", "(II)I"⟩
def w_Mod_noted : List Cond := .code y_Mod_noted prog_8_method_33_code 3 (some .int) :: ps_tbl
theorem e_Mod_noted : y_Mod_noted.cls ≠ "java/lang/invoke/MethodHandle" ∧ y_Mod_noted.cls ≠ "java/lang/invoke/VarHandle" ∧ (parseMethodDescriptor y_Mod_noted.desc).map (fun d => d.parameters.length) = some 2 := by decide +kernel
