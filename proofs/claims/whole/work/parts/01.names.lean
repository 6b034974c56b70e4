-- ===== PART A: goes FIRST, ahead of the names: the tables' words, and 'selects' of the private methods out of them =====
/-- a private method of a class that the tables say can be made, by its rows of tables_1 -/
def lw_okq (q : MethodName × Nat) : Prop := (q.1.cls ≠ "java/lang/invoke/MethodHandle" ∧ q.1.cls ≠ "java/lang/invoke/VarHandle") ∧ Cond.instantiable q.1.cls q.2 ∈ tables_1 ∧ Cond.privateMethod q.1 ∈ tables_1 ∧ Cond.instanceMethod q.1 ∈ tables_1
theorem lw_p0 : lw_okq (⟨"CellBench$Reducer", "orderFirstTwo", "()V"⟩, 7) := ⟨⟨by decide +kernel, by decide +kernel⟩, List.mem_of_getElem? (i := 21) (by decide +kernel), List.mem_of_getElem? (i := 155) (by decide +kernel), List.mem_of_getElem? (i := 156) (by decide +kernel)⟩
theorem lw_p1 : lw_okq (⟨"CellBench$Reducer", "orderLastTwo", "()Z"⟩, 7) := ⟨⟨by decide +kernel, by decide +kernel⟩, List.mem_of_getElem? (i := 21) (by decide +kernel), List.mem_of_getElem? (i := 162) (by decide +kernel), List.mem_of_getElem? (i := 163) (by decide +kernel)⟩
theorem lw_p2 : lw_okq (⟨"CellBench$Reducer", "alignSigns", "()V"⟩, 7) := ⟨⟨by decide +kernel, by decide +kernel⟩, List.mem_of_getElem? (i := 21) (by decide +kernel), List.mem_of_getElem? (i := 166) (by decide +kernel), List.mem_of_getElem? (i := 167) (by decide +kernel)⟩
theorem lw_p3 : lw_okq (⟨"CellBench$Reducer", "shearByX", "()Z"⟩, 7) := ⟨⟨by decide +kernel, by decide +kernel⟩, List.mem_of_getElem? (i := 21) (by decide +kernel), List.mem_of_getElem? (i := 173) (by decide +kernel), List.mem_of_getElem? (i := 174) (by decide +kernel)⟩
theorem lw_p4 : lw_okq (⟨"CellBench$Reducer", "shearByY", "()Z"⟩, 7) := ⟨⟨by decide +kernel, by decide +kernel⟩, List.mem_of_getElem? (i := 21) (by decide +kernel), List.mem_of_getElem? (i := 177) (by decide +kernel), List.mem_of_getElem? (i := 178) (by decide +kernel)⟩
theorem lw_p5 : lw_okq (⟨"CellBench$Reducer", "shearByZ", "()Z"⟩, 7) := ⟨⟨by decide +kernel, by decide +kernel⟩, List.mem_of_getElem? (i := 21) (by decide +kernel), List.mem_of_getElem? (i := 181) (by decide +kernel), List.mem_of_getElem? (i := 182) (by decide +kernel)⟩
theorem lw_p6 : lw_okq (⟨"CellBench$Reducer", "shearBySum", "()Z"⟩, 7) := ⟨⟨by decide +kernel, by decide +kernel⟩, List.mem_of_getElem? (i := 21) (by decide +kernel), List.mem_of_getElem? (i := 185) (by decide +kernel), List.mem_of_getElem? (i := 186) (by decide +kernel)⟩
theorem lw_p7 : lw_okq (⟨"CellBench$Products", "columnProduct", "(II)J"⟩, 6) := ⟨⟨by decide +kernel, by decide +kernel⟩, List.mem_of_getElem? (i := 98) (by decide +kernel), List.mem_of_getElem? (i := 200) (by decide +kernel), List.mem_of_getElem? (i := 201) (by decide +kernel)⟩
theorem lw_p8 : lw_okq (⟨"CellBench$Products", "fitsSecond", "(II)Z"⟩, 6) := ⟨⟨by decide +kernel, by decide +kernel⟩, List.mem_of_getElem? (i := 98) (by decide +kernel), List.mem_of_getElem? (i := 208) (by decide +kernel), List.mem_of_getElem? (i := 209) (by decide +kernel)⟩
theorem lw_p9 : lw_okq (⟨"CellBench$Products", "countThirds", "(II)I"⟩, 6) := ⟨⟨by decide +kernel, by decide +kernel⟩, List.mem_of_getElem? (i := 98) (by decide +kernel), List.mem_of_getElem? (i := 212) (by decide +kernel), List.mem_of_getElem? (i := 213) (by decide +kernel)⟩
theorem lw_p10 : lw_okq (⟨"CellBench$Products", "fitsThird", "(III)Z"⟩, 6) := ⟨⟨by decide +kernel, by decide +kernel⟩, List.mem_of_getElem? (i := 98) (by decide +kernel), List.mem_of_getElem? (i := 216) (by decide +kernel), List.mem_of_getElem? (i := 217) (by decide +kernel)⟩
theorem lw_p11 : lw_okq (⟨"CellBench", "find", "(I)LCellBench$Cell;"⟩, 5) := ⟨⟨by decide +kernel, by decide +kernel⟩, List.mem_of_getElem? (i := 11) (by decide +kernel), List.mem_of_getElem? (i := 249) (by decide +kernel), List.mem_of_getElem? (i := 250) (by decide +kernel)⟩
theorem lw_p12 : lw_okq (⟨"CellBench$MultipleTable", "addAll", "(LCellBench$Products;III)V"⟩, 5) := ⟨⟨by decide +kernel, by decide +kernel⟩, List.mem_of_getElem? (i := 49) (by decide +kernel), List.mem_of_getElem? (i := 290) (by decide +kernel), List.mem_of_getElem? (i := 291) (by decide +kernel)⟩
theorem lw_p13 : lw_okq (⟨"CellBench$MultipleTable", "reduceEdges", "(LCellBench$Products;IIIIII)V"⟩, 5) := ⟨⟨by decide +kernel, by decide +kernel⟩, List.mem_of_getElem? (i := 49) (by decide +kernel), List.mem_of_getElem? (i := 294) (by decide +kernel), List.mem_of_getElem? (i := 295) (by decide +kernel)⟩
theorem lw_p14 : lw_okq (⟨"CellBench$MultipleTable", "countReduced", "()V"⟩, 5) := ⟨⟨by decide +kernel, by decide +kernel⟩, List.mem_of_getElem? (i := 49) (by decide +kernel), List.mem_of_getElem? (i := 302) (by decide +kernel), List.mem_of_getElem? (i := 303) (by decide +kernel)⟩
theorem lw_p15 : lw_okq (⟨"CellBench$MultipleTable", "firstNotBelow", "()I"⟩, 5) := ⟨⟨by decide +kernel, by decide +kernel⟩, List.mem_of_getElem? (i := 49) (by decide +kernel), List.mem_of_getElem? (i := 306) (by decide +kernel), List.mem_of_getElem? (i := 307) (by decide +kernel)⟩
def lw_privs_1 : List (MethodName × Nat) := [(⟨"CellBench$Reducer", "orderFirstTwo", "()V"⟩, 7), (⟨"CellBench$Reducer", "orderLastTwo", "()Z"⟩, 7), (⟨"CellBench$Reducer", "alignSigns", "()V"⟩, 7), (⟨"CellBench$Reducer", "shearByX", "()Z"⟩, 7), (⟨"CellBench$Reducer", "shearByY", "()Z"⟩, 7), (⟨"CellBench$Reducer", "shearByZ", "()Z"⟩, 7), (⟨"CellBench$Reducer", "shearBySum", "()Z"⟩, 7), (⟨"CellBench$Products", "columnProduct", "(II)J"⟩, 6), (⟨"CellBench$Products", "fitsSecond", "(II)Z"⟩, 6), (⟨"CellBench$Products", "countThirds", "(II)I"⟩, 6), (⟨"CellBench$Products", "fitsThird", "(III)Z"⟩, 6), (⟨"CellBench", "find", "(I)LCellBench$Cell;"⟩, 5), (⟨"CellBench$MultipleTable", "addAll", "(LCellBench$Products;III)V"⟩, 5), (⟨"CellBench$MultipleTable", "reduceEdges", "(LCellBench$Products;IIIIII)V"⟩, 5), (⟨"CellBench$MultipleTable", "countReduced", "()V"⟩, 5), (⟨"CellBench$MultipleTable", "firstNotBelow", "()I"⟩, 5)]
theorem lw_r1 : ∀ q ∈ lw_privs_1, lw_okq q := List.forall_mem_cons.mpr ⟨lw_p0, List.forall_mem_cons.mpr ⟨lw_p1, List.forall_mem_cons.mpr ⟨lw_p2, List.forall_mem_cons.mpr ⟨lw_p3, List.forall_mem_cons.mpr ⟨lw_p4, List.forall_mem_cons.mpr ⟨lw_p5, List.forall_mem_cons.mpr ⟨lw_p6, List.forall_mem_cons.mpr ⟨lw_p7, List.forall_mem_cons.mpr ⟨lw_p8, List.forall_mem_cons.mpr ⟨lw_p9, List.forall_mem_cons.mpr ⟨lw_p10, List.forall_mem_cons.mpr ⟨lw_p11, List.forall_mem_cons.mpr ⟨lw_p12, List.forall_mem_cons.mpr ⟨lw_p13, List.forall_mem_cons.mpr ⟨lw_p14, List.forall_mem_cons.mpr ⟨lw_p15, fun _ h => absurd h List.not_mem_nil⟩⟩⟩⟩⟩⟩⟩⟩⟩⟩⟩⟩⟩⟩⟩⟩
theorem lw_p16 : lw_okq (⟨"CellBench$MultipleTable", "orderToReduced", "(I)I"⟩, 5) := ⟨⟨by decide +kernel, by decide +kernel⟩, List.mem_of_getElem? (i := 49) (by decide +kernel), List.mem_of_getElem? (i := 310) (by decide +kernel), List.mem_of_getElem? (i := 311) (by decide +kernel)⟩
theorem lw_p17 : lw_okq (⟨"CellBench$MultipleTable", "insert", "(I)V"⟩, 5) := ⟨⟨by decide +kernel, by decide +kernel⟩, List.mem_of_getElem? (i := 49) (by decide +kernel), List.mem_of_getElem? (i := 323) (by decide +kernel), List.mem_of_getElem? (i := 324) (by decide +kernel)⟩
theorem lw_p18 : lw_okq (⟨"CellBench$MultipleTable", "orderToOther", "(ILCellBench$MultipleTable;I)I"⟩, 5) := ⟨⟨by decide +kernel, by decide +kernel⟩, List.mem_of_getElem? (i := 49) (by decide +kernel), List.mem_of_getElem? (i := 347) (by decide +kernel), List.mem_of_getElem? (i := 348) (by decide +kernel)⟩
theorem lw_p19 : lw_okq (⟨"CellBenchModel", "reduce", "()V"⟩, 14) := ⟨⟨by decide +kernel, by decide +kernel⟩, List.mem_of_getElem? (i := 363) (by decide +kernel), List.mem_of_getElem? (i := 425) (by decide +kernel), List.mem_of_getElem? (i := 426) (by decide +kernel)⟩
theorem lw_p20 : lw_okq (⟨"CellBenchModel", "goes", "()Z"⟩, 14) := ⟨⟨by decide +kernel, by decide +kernel⟩, List.mem_of_getElem? (i := 363) (by decide +kernel), List.mem_of_getElem? (i := 430) (by decide +kernel), List.mem_of_getElem? (i := 431) (by decide +kernel)⟩
theorem lw_p21 : lw_okq (⟨"CellBenchModel", "exchange", "(II)V"⟩, 14) := ⟨⟨by decide +kernel, by decide +kernel⟩, List.mem_of_getElem? (i := 363) (by decide +kernel), List.mem_of_getElem? (i := 437) (by decide +kernel), List.mem_of_getElem? (i := 438) (by decide +kernel)⟩
theorem lw_p22 : lw_okq (⟨"CellBenchModel", "open", "(I)V"⟩, 14) := ⟨⟨by decide +kernel, by decide +kernel⟩, List.mem_of_getElem? (i := 363) (by decide +kernel), List.mem_of_getElem? (i := 442) (by decide +kernel), List.mem_of_getElem? (i := 443) (by decide +kernel)⟩
theorem lw_p23 : lw_okq (⟨"CellBenchModel", "keepsSix", "([JI)Z"⟩, 14) := ⟨⟨by decide +kernel, by decide +kernel⟩, List.mem_of_getElem? (i := 363) (by decide +kernel), List.mem_of_getElem? (i := 446) (by decide +kernel), List.mem_of_getElem? (i := 447) (by decide +kernel)⟩
theorem lw_p24 : lw_okq (⟨"CellBenchModel", "isCell", "(I)Z"⟩, 14) := ⟨⟨by decide +kernel, by decide +kernel⟩, List.mem_of_getElem? (i := 363) (by decide +kernel), List.mem_of_getElem? (i := 457) (by decide +kernel), List.mem_of_getElem? (i := 458) (by decide +kernel)⟩
theorem lw_p25 : lw_okq (⟨"CellBenchModel", "areSame", "(II)Z"⟩, 14) := ⟨⟨by decide +kernel, by decide +kernel⟩, List.mem_of_getElem? (i := 363) (by decide +kernel), List.mem_of_getElem? (i := 469) (by decide +kernel), List.mem_of_getElem? (i := 470) (by decide +kernel)⟩
theorem lw_p26 : lw_okq (⟨"CellBenchModel", "isMultiple", "(II)Z"⟩, 14) := ⟨⟨by decide +kernel, by decide +kernel⟩, List.mem_of_getElem? (i := 363) (by decide +kernel), List.mem_of_getElem? (i := 477) (by decide +kernel), List.mem_of_getElem? (i := 478) (by decide +kernel)⟩
theorem lw_p27 : lw_okq (⟨"CellBenchModel", "multiply", "(II)V"⟩, 14) := ⟨⟨by decide +kernel, by decide +kernel⟩, List.mem_of_getElem? (i := 363) (by decide +kernel), List.mem_of_getElem? (i := 481) (by decide +kernel), List.mem_of_getElem? (i := 482) (by decide +kernel)⟩
theorem lw_p28 : lw_okq (⟨"CellBenchModel", "oneMultiple", "(IIIIIII)V"⟩, 14) := ⟨⟨by decide +kernel, by decide +kernel⟩, List.mem_of_getElem? (i := 363) (by decide +kernel), List.mem_of_getElem? (i := 485) (by decide +kernel), List.mem_of_getElem? (i := 486) (by decide +kernel)⟩
theorem lw_p29 : lw_okq (⟨"CellBenchModel", "compared", "(I)I"⟩, 14) := ⟨⟨by decide +kernel, by decide +kernel⟩, List.mem_of_getElem? (i := 363) (by decide +kernel), List.mem_of_getElem? (i := 489) (by decide +kernel), List.mem_of_getElem? (i := 490) (by decide +kernel)⟩
def lw_privs_2 : List (MethodName × Nat) := [(⟨"CellBench$MultipleTable", "orderToReduced", "(I)I"⟩, 5), (⟨"CellBench$MultipleTable", "insert", "(I)V"⟩, 5), (⟨"CellBench$MultipleTable", "orderToOther", "(ILCellBench$MultipleTable;I)I"⟩, 5), (⟨"CellBenchModel", "reduce", "()V"⟩, 14), (⟨"CellBenchModel", "goes", "()Z"⟩, 14), (⟨"CellBenchModel", "exchange", "(II)V"⟩, 14), (⟨"CellBenchModel", "open", "(I)V"⟩, 14), (⟨"CellBenchModel", "keepsSix", "([JI)Z"⟩, 14), (⟨"CellBenchModel", "isCell", "(I)Z"⟩, 14), (⟨"CellBenchModel", "areSame", "(II)Z"⟩, 14), (⟨"CellBenchModel", "isMultiple", "(II)Z"⟩, 14), (⟨"CellBenchModel", "multiply", "(II)V"⟩, 14), (⟨"CellBenchModel", "oneMultiple", "(IIIIIII)V"⟩, 14), (⟨"CellBenchModel", "compared", "(I)I"⟩, 14)]
theorem lw_r2 : ∀ q ∈ lw_privs_2, lw_okq q := List.forall_mem_cons.mpr ⟨lw_p16, List.forall_mem_cons.mpr ⟨lw_p17, List.forall_mem_cons.mpr ⟨lw_p18, List.forall_mem_cons.mpr ⟨lw_p19, List.forall_mem_cons.mpr ⟨lw_p20, List.forall_mem_cons.mpr ⟨lw_p21, List.forall_mem_cons.mpr ⟨lw_p22, List.forall_mem_cons.mpr ⟨lw_p23, List.forall_mem_cons.mpr ⟨lw_p24, List.forall_mem_cons.mpr ⟨lw_p25, List.forall_mem_cons.mpr ⟨lw_p26, List.forall_mem_cons.mpr ⟨lw_p27, List.forall_mem_cons.mpr ⟨lw_p28, List.forall_mem_cons.mpr ⟨lw_p29, fun _ h => absurd h List.not_mem_nil⟩⟩⟩⟩⟩⟩⟩⟩⟩⟩⟩⟩⟩⟩
def lw_privs : List (MethodName × Nat) := lw_privs_1 ++ (lw_privs_2)
def lw_tbl : List Cond := k2_sels lw_privs ++ tables_1
theorem lw_privs_ok : ∀ q ∈ lw_privs, lw_okq q := by
  show ∀ q ∈ lw_privs_1 ++ (lw_privs_2), lw_okq q
  exact List.forall_mem_append.mpr ⟨lw_r1, lw_r2⟩

def R_Products : String := "CellBench$Products"
def F_Products : u_T := fun k => match k with
  | 0 => ("CellBench$Products", "a", "J", true)
  | 1 => ("CellBench$Products", "b", "J", true)
  | 2 => ("CellBench$Products", "c", "J", true)
  | 3 => ("CellBench$Products", "d", "J", true)
  | 4 => ("CellBench$Products", "e", "J", true)
  | _ => ("CellBench$Products", "f", "J", true)
def t_Products : Nat → FieldType := fun k => match k with
  | 0 => .long
  | 1 => .long
  | 2 => .long
  | 3 => .long
  | 4 => .long
  | _ => .long
theorem n_Products : ∀ a, a < 6 → ∀ b, b < 6 → a ≠ b → (F_Products a).2.1 ≠ (F_Products b).2.1 := by decide +kernel
theorem t_Products_ok : ∀ k, k < 6 → parseFieldDescriptor (F_Products k).2.2.1 = some (t_Products k) := by decide +kernel
def R_Reducer : String := "CellBench$Reducer"
def F_Reducer : u_T := fun k => match k with
  | 0 => ("CellBench$Reducer", "a", "J", false)
  | 1 => ("CellBench$Reducer", "b", "J", false)
  | 2 => ("CellBench$Reducer", "c", "J", false)
  | 3 => ("CellBench$Reducer", "x", "J", false)
  | 4 => ("CellBench$Reducer", "y", "J", false)
  | 5 => ("CellBench$Reducer", "z", "J", false)
  | _ => ("CellBench$Reducer", "shears", "I", false)
def t_Reducer : Nat → FieldType := fun k => match k with
  | 0 => .long
  | 1 => .long
  | 2 => .long
  | 3 => .long
  | 4 => .long
  | 5 => .long
  | _ => .int
theorem n_Reducer : ∀ a, a < 7 → ∀ b, b < 7 → a ≠ b → (F_Reducer a).2.1 ≠ (F_Reducer b).2.1 := by decide +kernel
theorem t_Reducer_ok : ∀ k, k < 7 → parseFieldDescriptor (F_Reducer k).2.2.1 = some (t_Reducer k) := by decide +kernel
def R_Table : String := "CellBench$MultipleTable"
def F_Table : u_T := fun k => match k with
  | 0 => ("CellBench$MultipleTable", "reducer", "LCellBench$Reducer;", true)
  | 1 => ("CellBench$MultipleTable", "rows", "[J", true)
  | 2 => ("CellBench$MultipleTable", "size", "I", false)
  | 3 => ("CellBench$MultipleTable", "filledCell", "I", false)
  | _ => ("CellBench$MultipleTable", "filledN", "I", false)
def t_Table : Nat → FieldType := fun k => match k with
  | 0 => .object "CellBench$Reducer"
  | 1 => .array .long
  | 2 => .int
  | 3 => .int
  | _ => .int
theorem n_Table : ∀ a, a < 5 → ∀ b, b < 5 → a ≠ b → (F_Table a).2.1 ≠ (F_Table b).2.1 := by decide +kernel
theorem t_Table_ok : ∀ k, k < 5 → parseFieldDescriptor (F_Table k).2.2.1 = some (t_Table k) := by decide +kernel
def R_Cell : String := "CellBench$Cell"
def F_Cell : u_T := fun k => match k with
  | 0 => ("CellBench$Cell", "told", "LCellBench$Products;", true)
  | 1 => ("CellBench$Cell", "low", "LCellBench$Products;", true)
  | 2 => ("CellBench$Cell", "symmetry", "I", true)
  | _ => ("CellBench$Cell", "shears", "I", true)
def t_Cell : Nat → FieldType := fun k => match k with
  | 0 => .object "CellBench$Products"
  | 1 => .object "CellBench$Products"
  | 2 => .int
  | _ => .int
theorem n_Cell : ∀ a, a < 4 → ∀ b, b < 4 → a ≠ b → (F_Cell a).2.1 ≠ (F_Cell b).2.1 := by decide +kernel
theorem t_Cell_ok : ∀ k, k < 4 → parseFieldDescriptor (F_Cell k).2.2.1 = some (t_Cell k) := by decide +kernel
def R_Bench : String := "CellBench"
def F_Bench : u_T := fun k => match k with
  | 0 => ("CellBench", "cells", "[LCellBench$Cell;", true)
  | 1 => ("CellBench", "reducer", "LCellBench$Reducer;", true)
  | 2 => ("CellBench", "table", "LCellBench$MultipleTable;", true)
  | 3 => ("CellBench", "otherTable", "LCellBench$MultipleTable;", true)
  | _ => ("CellBench", "count", "I", false)
def t_Bench : Nat → FieldType := fun k => match k with
  | 0 => .array (.object "CellBench$Cell")
  | 1 => .object "CellBench$Reducer"
  | 2 => .object "CellBench$MultipleTable"
  | 3 => .object "CellBench$MultipleTable"
  | _ => .int
theorem n_Bench : ∀ a, a < 5 → ∀ b, b < 5 → a ≠ b → (F_Bench a).2.1 ≠ (F_Bench b).2.1 := by decide +kernel
theorem t_Bench_ok : ∀ k, k < 5 → parseFieldDescriptor (F_Bench k).2.2.1 = some (t_Bench k) := by decide +kernel
def R_Model : String := "CellBenchModel"
def F_Model : u_T := fun k => match k with
  | 0 => ("CellBenchModel", "m", "[I", true)
  | 1 => ("CellBenchModel", "cells", "[J", true)
  | 2 => ("CellBenchModel", "lows", "[J", true)
  | 3 => ("CellBenchModel", "symmetry", "[I", true)
  | 4 => ("CellBenchModel", "stepsOf", "[I", true)
  | 5 => ("CellBenchModel", "cellMany", "I", false)
  | 6 => ("CellBenchModel", "steps", "I", false)
  | 7 => ("CellBenchModel", "six", "[J", true)
  | 8 => ("CellBenchModel", "multi", "[J", true)
  | 9 => ("CellBenchModel", "comes", "[I", true)
  | 10 => ("CellBenchModel", "multis", "I", false)
  | 11 => ("CellBenchModel", "multiCell", "I", false)
  | 12 => ("CellBenchModel", "multiBy", "I", false)
  | _ => ("CellBenchModel", "other", "[J", true)
def t_Model : Nat → FieldType := fun k => match k with
  | 0 => .array .int
  | 1 => .array .long
  | 2 => .array .long
  | 3 => .array .int
  | 4 => .array .int
  | 5 => .int
  | 6 => .int
  | 7 => .array .long
  | 8 => .array .long
  | 9 => .array .int
  | 10 => .int
  | 11 => .int
  | 12 => .int
  | _ => .array .long
theorem n_Model : ∀ a, a < 14 → ∀ b, b < 14 → a ≠ b → (F_Model a).2.1 ≠ (F_Model b).2.1 := by decide +kernel
theorem t_Model_ok : ∀ k, k < 14 → parseFieldDescriptor (F_Model k).2.2.1 = some (t_Model k) := by decide +kernel
abbrev classes : List vw_C := [(R_Products, F_Products, 6), (R_Reducer, F_Reducer, 7), (R_Table, F_Table, 5), (R_Cell, F_Cell, 4), (R_Bench, F_Bench, 5), (R_Model, F_Model, 14)]
def y_isSquare : MethodName := ⟨R_Bench, "isSquare", "(I)Z"⟩
abbrev b_isSquare : ByteArray := prog_1_method_12_code
def y_isMixed : MethodName := ⟨R_Bench, "isMixed", "(I)Z"⟩
abbrev b_isMixed : ByteArray := prog_1_method_13_code
def y_isMultiplier : MethodName := ⟨R_Bench, "isMultiplier", "(I)Z"⟩
abbrev b_isMultiplier : ByteArray := prog_1_method_14_code
def y_isRouteNumber : MethodName := ⟨R_Bench, "isRouteNumber", "(I)Z"⟩
abbrev b_isRouteNumber : ByteArray := prog_1_method_15_code
def y_columnAtEnd : MethodName := ⟨R_Bench, "columnAtEnd", "(I)I"⟩
abbrev b_columnAtEnd : ByteArray := prog_1_method_16_code
def y_P_at : MethodName := ⟨R_Products, "at", "(I)J"⟩
abbrev b_P_at : ByteArray := prog_4_method_2_code
def y_P_det : MethodName := ⟨R_Products, "determinant", "()J"⟩
abbrev b_P_det : ByteArray := prog_4_method_4_code
def y_P_span : MethodName := ⟨R_Products, "spanASpace", "()Z"⟩
abbrev b_P_span : ByteArray := prog_4_method_3_code
def y_P_prod : MethodName := ⟨R_Products, "product", "(JJJJJJ)J"⟩
abbrev b_P_prod : ByteArray := prog_4_method_5_code
def y_P_colp : MethodName := ⟨R_Products, "columnProduct", "(II)J"⟩
abbrev b_P_colp : ByteArray := prog_4_method_6_code
def y_P_fit2 : MethodName := ⟨R_Products, "fitsSecond", "(II)Z"⟩
abbrev b_P_fit2 : ByteArray := prog_4_method_8_code
def y_P_fit3 : MethodName := ⟨R_Products, "fitsThird", "(III)Z"⟩
abbrev b_P_fit3 : ByteArray := prog_4_method_9_code
def y_P_kept : MethodName := ⟨R_Products, "areKeptBy", "(III)Z"⟩
abbrev b_P_kept : ByteArray := prog_4_method_7_code
def y_P_thirds : MethodName := ⟨R_Products, "countThirds", "(II)I"⟩
abbrev b_P_thirds : ByteArray := prog_4_method_11_code
def y_P_keepers : MethodName := ⟨R_Products, "countKeepers", "()I"⟩
abbrev b_P_keepers : ByteArray := prog_4_method_10_code
def y_Long_cmp : MethodName := ⟨"java/lang/Long", "compare", "(JJ)I"⟩
abbrev b_Long_cmp : ByteArray := prog_8_method_42_code
def y_R_setSq : MethodName := ⟨R_Reducer, "setSquares", "(JJJ)V"⟩
abbrev b_R_setSq : ByteArray := prog_5_method_3_code
def y_R_setMx : MethodName := ⟨R_Reducer, "setMixed", "(JJJ)V"⟩
abbrev b_R_setMx : ByteArray := prog_5_method_4_code
def y_R_shears : MethodName := ⟨R_Reducer, "shears", "()I"⟩
abbrev b_R_shears : ByteArray := prog_5_method_7_code
def y_R_at : MethodName := ⟨R_Reducer, "at", "(I)J"⟩
abbrev b_R_at : ByteArray := prog_5_method_8_code
def y_R_ord1 : MethodName := ⟨R_Reducer, "orderFirstTwo", "()V"⟩
abbrev b_R_ord1 : ByteArray := prog_5_method_9_code
def y_R_ord2 : MethodName := ⟨R_Reducer, "orderLastTwo", "()Z"⟩
abbrev b_R_ord2 : ByteArray := prog_5_method_10_code
def y_R_align : MethodName := ⟨R_Reducer, "alignSigns", "()V"⟩
abbrev b_R_align : ByteArray := prog_5_method_11_code
def y_R_shX : MethodName := ⟨R_Reducer, "shearByX", "()Z"⟩
abbrev b_R_shX : ByteArray := prog_5_method_12_code
def y_R_shY : MethodName := ⟨R_Reducer, "shearByY", "()Z"⟩
abbrev b_R_shY : ByteArray := prog_5_method_13_code
def y_R_shZ : MethodName := ⟨R_Reducer, "shearByZ", "()Z"⟩
abbrev b_R_shZ : ByteArray := prog_5_method_14_code
def y_R_shS : MethodName := ⟨R_Reducer, "shearBySum", "()Z"⟩
abbrev b_R_shS : ByteArray := prog_5_method_15_code
def y_R_run : MethodName := ⟨R_Reducer, "run", "()V"⟩
abbrev b_R_run : ByteArray := prog_5_method_5_code
def y_R_reduce : MethodName := ⟨R_Reducer, "reduce", "(LCellBench$Products;)V"⟩
abbrev b_R_reduce : ByteArray := prog_5_method_2_code
def y_T_size : MethodName := ⟨R_Table, "size", "()I"⟩
abbrev b_T_size : ByteArray := prog_3_method_2_code
def y_T_at : MethodName := ⟨R_Table, "at", "(II)J"⟩
abbrev b_T_at : ByteArray := prog_3_method_3_code
def y_T_ordR : MethodName := ⟨R_Table, "orderToReduced", "(I)I"⟩
abbrev b_T_ordR : ByteArray := prog_3_method_9_code
def y_T_first : MethodName := ⟨R_Table, "firstNotBelow", "()I"⟩
abbrev b_T_first : ByteArray := prog_3_method_8_code
def y_T_insert : MethodName := ⟨R_Table, "insert", "(I)V"⟩
abbrev b_T_insert : ByteArray := prog_3_method_10_code
def y_T_count : MethodName := ⟨R_Table, "countReduced", "()V"⟩
abbrev b_T_count : ByteArray := prog_3_method_7_code
def y_T_edges : MethodName := ⟨R_Table, "reduceEdges", "(LCellBench$Products;IIIIII)V"⟩
abbrev b_T_edges : ByteArray := prog_3_method_6_code
def y_T_addAll : MethodName := ⟨R_Table, "addAll", "(LCellBench$Products;III)V"⟩
abbrev b_T_addAll : ByteArray := prog_3_method_5_code
def y_T_fill : MethodName := ⟨R_Table, "fill", "(ILCellBench$Products;I)V"⟩
abbrev b_T_fill : ByteArray := prog_3_method_4_code
def y_T_ordO : MethodName := ⟨R_Table, "orderToOther", "(ILCellBench$MultipleTable;I)I"⟩
abbrev b_T_ordO : ByteArray := prog_3_method_12_code
def y_T_shared : MethodName := ⟨R_Table, "countShared", "(LCellBench$MultipleTable;)I"⟩
abbrev b_T_shared : ByteArray := prog_3_method_11_code
def y_P_init : MethodName := ⟨R_Products, "<init>", "(JJJJJJ)V"⟩
abbrev b_P_init : ByteArray := prog_4_method_1_code
def y_R_init : MethodName := ⟨R_Reducer, "<init>", "()V"⟩
abbrev b_R_init : ByteArray := prog_5_method_1_code
def y_R_result : MethodName := ⟨R_Reducer, "result", "()LCellBench$Products;"⟩
abbrev b_R_result : ByteArray := prog_5_method_6_code
def y_C_init : MethodName := ⟨R_Cell, "<init>", "(LCellBench$Products;LCellBench$Products;II)V"⟩
abbrev b_C_init : ByteArray := prog_2_method_1_code
def y_T_init : MethodName := ⟨R_Table, "<init>", "(LCellBench$Reducer;)V"⟩
abbrev b_T_init : ByteArray := prog_3_method_1_code
def y_P_order : MethodName := ⟨R_Products, "order", "(LCellBench$Products;)I"⟩
abbrev b_P_order : ByteArray := prog_4_method_12_code
def y_B_find : MethodName := ⟨R_Bench, "find", "(I)LCellBench$Cell;"⟩
abbrev b_B_find : ByteArray := prog_1_method_11_code
def y_B_reduced : MethodName := ⟨R_Bench, "reduced", "(II)J"⟩
abbrev b_B_reduced : ByteArray := prog_1_method_3_code
def y_B_keeps : MethodName := ⟨R_Bench, "keeps", "(II)Z"⟩
abbrev b_B_keeps : ByteArray := prog_1_method_4_code
def y_B_step : MethodName := ⟨R_Bench, "step", "(IIII)J"⟩
abbrev b_B_step : ByteArray := prog_1_method_9_code
def y_B_same : MethodName := ⟨R_Bench, "same", "(I)I"⟩
abbrev b_B_same : ByteArray := prog_1_method_5_code
def y_B_shorter : MethodName := ⟨R_Bench, "shorter", "(IJ)I"⟩
abbrev b_B_shorter : ByteArray := prog_1_method_10_code
def y_B_multiples : MethodName := ⟨R_Bench, "multiples", "(II)I"⟩
abbrev b_B_multiples : ByteArray := prog_1_method_6_code
def y_B_multiple : MethodName := ⟨R_Bench, "multiple", "(IIII)J"⟩
abbrev b_B_multiple : ByteArray := prog_1_method_7_code
def y_B_common : MethodName := ⟨R_Bench, "common", "(IIII)I"⟩
abbrev b_B_common : ByteArray := prog_1_method_8_code
def y_B_init : MethodName := ⟨R_Bench, "<init>", "()V"⟩
abbrev b_B_init : ByteArray := prog_1_method_1_code
def y_B_cell : MethodName := ⟨R_Bench, "cell", "(IIIIII)I"⟩
abbrev b_B_cell : ByteArray := prog_1_method_2_code
def y_M_between : MethodName := ⟨R_Model, "between", "(JJJ)Z"⟩
abbrev b_M_between : ByteArray := prog_7_method_4_code
def y_M_size : MethodName := ⟨R_Model, "size", "(J)J"⟩
abbrev b_M_size : ByteArray := prog_7_method_7_code
def y_M_det : MethodName := ⟨R_Model, "determinantOf", "([JI)J"⟩
abbrev b_M_det : ByteArray := prog_7_method_5_code
def y_M_dot : MethodName := ⟨R_Model, "dot", "([JIJJJJJJ)J"⟩
abbrev b_M_dot : ByteArray := prog_7_method_11_code
def y_M_open : MethodName := ⟨R_Model, "open", "(I)V"⟩
abbrev b_M_open : ByteArray := prog_7_method_3_code
def y_M_isCell : MethodName := ⟨R_Model, "isCell", "(I)Z"⟩
abbrev b_M_isCell : ByteArray := prog_7_method_13_code
def y_M_isMul : MethodName := ⟨R_Model, "isMultiple", "(II)Z"⟩
abbrev b_M_isMul : ByteArray := prog_7_method_21_code
def y_M_keeps6 : MethodName := ⟨R_Model, "keepsSix", "([JI)Z"⟩
abbrev b_M_keeps6 : ByteArray := prog_7_method_12_code
def y_M_exch : MethodName := ⟨R_Model, "exchange", "(II)V"⟩
abbrev b_M_exch : ByteArray := prog_7_method_8_code
def y_M_goes : MethodName := ⟨R_Model, "goes", "()Z"⟩
abbrev b_M_goes : ByteArray := prog_7_method_10_code
def y_M_reduce : MethodName := ⟨R_Model, "reduce", "()V"⟩
abbrev b_M_reduce : ByteArray := prog_7_method_9_code
def y_M_areSame : MethodName := ⟨R_Model, "areSame", "(II)Z"⟩
abbrev b_M_areSame : ByteArray := prog_7_method_17_code
def y_M_same : MethodName := ⟨R_Model, "same", "(I)I"⟩
abbrev b_M_same : ByteArray := prog_7_method_16_code
def y_M_reduced : MethodName := ⟨R_Model, "reduced", "(II)J"⟩
abbrev b_M_reduced : ByteArray := prog_7_method_14_code
def y_M_keeps : MethodName := ⟨R_Model, "keeps", "(II)Z"⟩
abbrev b_M_keeps : ByteArray := prog_7_method_15_code
def y_M_step : MethodName := ⟨R_Model, "step", "(IIII)J"⟩
abbrev b_M_step : ByteArray := prog_7_method_25_code
def y_M_comp : MethodName := ⟨R_Model, "compared", "(I)I"⟩
abbrev b_M_comp : ByteArray := prog_7_method_20_code
def y_M_shorter : MethodName := ⟨R_Model, "shorter", "(IJ)I"⟩
abbrev b_M_shorter : ByteArray := prog_7_method_26_code
def y_M_cell : MethodName := ⟨R_Model, "cell", "(IIIIII)I"⟩
abbrev b_M_cell : ByteArray := prog_7_method_6_code
def y_M_one : MethodName := ⟨R_Model, "oneMultiple", "(IIIIIII)V"⟩
abbrev b_M_one : ByteArray := prog_7_method_19_code
def y_M_mult : MethodName := ⟨R_Model, "multiply", "(II)V"⟩
abbrev b_M_mult : ByteArray := prog_7_method_18_code
def y_M_multiples : MethodName := ⟨R_Model, "multiples", "(II)I"⟩
abbrev b_M_multiples : ByteArray := prog_7_method_22_code
def y_M_multiple : MethodName := ⟨R_Model, "multiple", "(IIII)J"⟩
abbrev b_M_multiple : ByteArray := prog_7_method_23_code
def y_M_common : MethodName := ⟨R_Model, "common", "(IIII)I"⟩
abbrev b_M_common : ByteArray := prog_7_method_24_code
def y_M_init : MethodName := ⟨R_Model, "<init>", "()V"⟩
abbrev b_M_init : ByteArray := prog_7_method_1_code
abbrev CT : Type := ClassId × ClassId × ClassId
abbrev TYS (ct : CT) : List (ClassId × FieldType) := [(ct.1, .long), (ct.2.1, .object R_Cell), (ct.2.2, .int)]
abbrev P6 : Type := Int64 × Int64 × Int64 × Int64 × Int64 × Int64
def nws : List Cond := [.fieldLinkNest "CellBench$Reducer" 13 "CellBench$Products" "a" "J" "CellBench", .fieldLinkNest "CellBench$Reducer" 19 "CellBench$Products" "b" "J" "CellBench", .fieldLinkNest "CellBench$Reducer" 22 "CellBench$Products" "c" "J" "CellBench", .fieldLinkNest "CellBench$Reducer" 29 "CellBench$Products" "d" "J" "CellBench", .fieldLinkNest "CellBench$Reducer" 32 "CellBench$Products" "e" "J" "CellBench", .fieldLinkNest "CellBench$Reducer" 35 "CellBench$Products" "f" "J" "CellBench"]
theorem nws_on : ∀ w ∈ nws, w.onTables = true := by decide +kernel
theorem nws_warm {s U : State} (hW : s.WarmedH U.vm) : ∀ w ∈ nws, va_Nw w s → va_Nw w U := by
  intro w hw h
  simp only [nws, List.mem_cons, List.not_mem_nil, or_false] at hw
  rcases hw with rfl | rfl | rfl | rfl | rfl | rfl <;> exact va_Nw.warmF hW h
theorem nm_0 : Cond.fieldLinkNest "CellBench$Reducer" 13 "CellBench$Products" "a" "J" "CellBench" ∈ nws := List.mem_of_getElem? (i := 0) rfl
theorem nm_1 : Cond.fieldLinkNest "CellBench$Reducer" 19 "CellBench$Products" "b" "J" "CellBench" ∈ nws := List.mem_of_getElem? (i := 1) rfl
theorem nm_2 : Cond.fieldLinkNest "CellBench$Reducer" 22 "CellBench$Products" "c" "J" "CellBench" ∈ nws := List.mem_of_getElem? (i := 2) rfl
theorem nm_3 : Cond.fieldLinkNest "CellBench$Reducer" 29 "CellBench$Products" "d" "J" "CellBench" ∈ nws := List.mem_of_getElem? (i := 3) rfl
theorem nm_4 : Cond.fieldLinkNest "CellBench$Reducer" 32 "CellBench$Products" "e" "J" "CellBench" ∈ nws := List.mem_of_getElem? (i := 4) rfl
theorem nm_5 : Cond.fieldLinkNest "CellBench$Reducer" 35 "CellBench$Products" "f" "J" "CellBench" ∈ nws := List.mem_of_getElem? (i := 5) rfl
-- the tables' good words, one list for every method
def GW : List Cond := lw_tbl.filter goodWord
theorem gw_good {w : Cond} (h : w ∈ GW) : (w.onTables && w.keeps) = true ∨ ∃ ty, w = .arrayClass ty := good_of_word (List.mem_filter.mp h).2
theorem gw_in {w : Cond} (i : Nat) (h : lw_tbl[i]? = some w) (g : goodWord w = true) : w ∈ GW := List.mem_filter.mpr ⟨List.mem_of_getElem? h, g⟩
theorem gi {z : Cond} (hz : z ∈ GW) : GoodIn GW (z :: GW) := fun w hw => by
  rcases List.mem_cons.mp hw with rfl | h
  · exact ⟨hz, gw_good hz⟩
  · exact ⟨h, gw_good h⟩
theorem giV {own C : String} {idx : Nat} {y : MethodName} {ws : List Cond} (h1 : Cond.methodLink own idx y ∈ GW) (h2 : Cond.instanceMethod y ∈ GW) (h3 : Cond.selects C y y ∈ GW) (h4 : Cond.initialized C ∈ GW) (hg : GoodIn GW ws) : GoodIn GW (wsV own idx C y ws) := fun w hw => by
  unfold wsV at hw
  rcases List.mem_append.mp hw with h | h
  · simp only [List.mem_cons, List.not_mem_nil, or_false] at h
    rcases h with rfl | rfl | rfl | rfl
    · exact ⟨h1, gw_good h1⟩
    · exact ⟨h2, gw_good h2⟩
    · exact ⟨h3, gw_good h3⟩
    · exact ⟨h4, gw_good h4⟩
  · exact hg w h
theorem giS {own : String} {idx : Nat} {y : MethodName} {ws : List Cond} (h1 : Cond.methodLink own idx y ∈ GW) (h2 : Cond.static y ∈ GW) (h4 : Cond.initialized own ∈ GW) (hg : GoodIn GW ws) : GoodIn GW (wsS own idx y ws) := fun w hw => by
  unfold wsS at hw
  rcases List.mem_append.mp hw with h | h
  · simp only [List.mem_cons, List.not_mem_nil, or_false] at h
    rcases h with rfl | rfl | rfl
    · exact ⟨h1, gw_good h1⟩
    · exact ⟨h2, gw_good h2⟩
    · exact ⟨h4, gw_good h4⟩
  · exact hg w h
theorem ht_tl {z : Cond} {args : Array Value} {s : State} (h : ∀ w ∈ z :: GW, w.before args s = true) : ∀ w ∈ GW, w.before args s = true := fun w hw => h w (List.mem_cons_of_mem _ hw)
-- what holds of the tables in every state: the classes, the array classes, the links between nest mates
def NW (U : State) : Prop := ∀ w ∈ nws, va_Nw w U
theorem NW.of {w : Cond} {U : State} (h : NW U) (hm : w ∈ nws) : va_Nw w U := h w hm
theorem NW.vm {u U : State} (e : u.vm = U.vm) (h : NW u) : NW U := fun w hw => va_tabs (nws_on w hw) e (h w hw)
def KK (D : va_G) (ct : CT) (U : State) : Prop := va_K D classes (TYS ct) U ∧ NW U ∧ va_AO R_Cell U
theorem KK.warm {D : va_G} {ct : CT} {s U : State} (hW : s.WarmedH U.vm) (h : KK D ct s) : KK D ct U := ⟨va_K.moved hW.alike h.1, fun w hw => nws_warm hW w hw (h.2.1 w hw), va_AO.moved hW.alike h.2.2⟩
theorem KK.call {D : va_G} {ct : CT} {U : State} {g : JFrame} {mk : MethodId} {a : Array Value} (h : KK D ct U) : KK D ct (U.calling g mk a) := ⟨va_K.moved (u := U) (U := U.calling g mk a) (Vm.Alike.refl U.vm) h.1, NW.vm (u := U) (U := U.calling g mk a) rfl h.2.1, va_AO.moved (u := U) (U := U.calling g mk a) (Vm.Alike.refl U.vm) h.2.2⟩
def PreP (D : va_G) (ct : CT) (ws : va_W) (U : State) : Prop := va_P D classes ws U.heap ∧ KK D ct U
def PreM (D : va_G) (ct : CT) (A : Nat → Prop) (ws : va_W) (U : State) : Prop := (∀ q : Nat, U.heap.size ≤ q → A q) ∧ va_P D classes ws U.heap ∧ va_D A ws ∧ KK D ct U
theorem blindP {D : va_G} {ct : CT} {ws : va_W} {av : List Value} : FrameBlind (va_Pc av (PreP D ct ws)) := fun _ _ _ _ q => ⟨q.1, q.2.1, q.2.2.call⟩
theorem blindM {D : va_G} {ct : CT} {A : Nat → Prop} {ws : va_W} {av : List Value} : FrameBlind (va_Pc av (PreM D ct A ws)) := fun _ _ _ _ q => ⟨q.1, q.2.1, q.2.2.1, q.2.2.2.1, q.2.2.2.2.call⟩
section PRE
variable {D : va_G} {ct : CT} {ws : va_W} {A : Nat → Prop} {s : State} {H : Heap} {locs : List Loc} {C : String} {b : Addr} {As : List Value}
theorem preV (hP : va_P D classes ws H) (hKK : KK D ct s) (hr : ∃ cell : Cell, H[b]? = some cell ∧ cell.vm.isStatics = false ∧ s.vm.findClass C = some cell.cls) : PreV s H C b (va_Pc (.ref b :: As) (PreP D ct ws)) As :=
  ⟨blindP, hr, fun _ hU hW => ⟨rfl, by rw [hU]; exact hP, hKK.warm hW⟩⟩
theorem preS (hP : va_P D classes ws H) (hKK : KK D ct s) : PreS s H (va_Pc As (PreP D ct ws)) As :=
  ⟨blindP, fun _ hU hW => ⟨rfl, by rw [hU]; exact hP, hKK.warm hW⟩⟩
theorem preVM (hA : ∀ q : Nat, s.heap.size ≤ q → A q) (hS : va_S A s.heap H locs) (hP : va_P D classes ws H) (hD : va_D A ws) (hKK : KK D ct s) (hr : ∃ cell : Cell, H[b]? = some cell ∧ cell.vm.isStatics = false ∧ s.vm.findClass C = some cell.cls) : PreV s H C b (va_Pc (.ref b :: As) (PreM D ct A ws)) As :=
  ⟨blindM, hr, fun _ hU hW => ⟨rfl, fun q hq => hA q (Nat.le_trans hS.1 (by rw [hU] at hq; exact hq)), by rw [hU]; exact hP, hD, hKK.warm hW⟩⟩
theorem preSM (hA : ∀ q : Nat, s.heap.size ≤ q → A q) (hS : va_S A s.heap H locs) (hP : va_P D classes ws H) (hD : va_D A ws) (hKK : KK D ct s) : PreS s H (va_Pc As (PreM D ct A ws)) As :=
  ⟨blindM, fun _ hU hW => ⟨rfl, fun q hq => hA q (Nat.le_trans hS.1 (by rw [hU] at hq; exact hq)), by rw [hU]; exact hP, hD, hKK.warm hW⟩⟩
end PRE
-- an index, a copy: what the program looks at
def inb (i : Int32) (n : Nat) : Bool := decide (0 ≤ i.toInt ∧ i.toInt < n)
theorem inb_in {i : Int32} {n : Nat} (h : inb i n = true) : vp_in i n := vp_in_iff.mpr (of_decide_eq_true h)
def cpk (sp dp n : Int32) (n0 n1 : Nat) : Bool := decide (((¬ sp < 0 ∧ ¬ dp < 0) ∧ ¬ n < 0) ∧ sp.toNatClampNeg + n.toNatClampNeg ≤ n0 ∧ dp.toNatClampNeg + n.toNatClampNeg ≤ n1)
section CPK
variable {sp dp n : Int32} {n0 n1 : Nat}
theorem cpk_1 (h : cpk sp dp n n0 n1 = true) : ¬ sp < 0 := (of_decide_eq_true h).1.1.1
theorem cpk_2 (h : cpk sp dp n n0 n1 = true) : ¬ dp < 0 := (of_decide_eq_true h).1.1.2
theorem cpk_3 (h : cpk sp dp n n0 n1 = true) : ¬ n < 0 := (of_decide_eq_true h).1.2
theorem cpk_4 (h : cpk sp dp n n0 n1 = true) : sp.toNatClampNeg + n.toNatClampNeg ≤ n0 := (of_decide_eq_true h).2.1
theorem cpk_5 (h : cpk sp dp n n0 n1 = true) : dp.toNatClampNeg + n.toNatClampNeg ≤ n1 := (of_decide_eq_true h).2.2
end CPK
-- a new array's kind is the one that the tables know
theorem newJ {D : va_G} {ct : CT} {cA : ClassId} {s : State} (hK : va_K D classes (TYS ct ++ [(cA, .long)]) s) : cA = ct.1 :=
  Option.some.inj ((va_nm_long (hK.2 3 (cA, .long) rfl).2).symm.trans (va_nm_long (hK.2 0 (ct.1, .long) rfl).2))
theorem newI {D : va_G} {ct : CT} {cA : ClassId} {s : State} (hK : va_K D classes (TYS ct ++ [(cA, .int)]) s) : cA = ct.2.2 :=
  Option.some.inj ((va_nm_int (hK.2 3 (cA, .int) rfl).2).symm.trans (va_nm_int (hK.2 2 (ct.2.2, .int) rfl).2))
theorem newQ {D : va_G} {ct : CT} {cA : ClassId} {s : State} (hK : va_K D classes (TYS ct ++ [(cA, .object R_Cell)]) s) : cA = ct.2.1 := by
  obtain ⟨k1, c1, a1, a2, a3, a4⟩ := (hK.2 3 (cA, .object R_Cell) rfl).2
  obtain ⟨k2, c2, b1, b2, b3, b4⟩ := (hK.2 1 (ct.2.1, .object R_Cell) rfl).2
  have e : c1 = c2 := Option.some.inj (a3.symm.trans b3)
  subst e
  exact Option.some.inj (a4.symm.trans b4)

