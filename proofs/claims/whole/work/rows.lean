section
-- ===== PART A: goes FIRST, ahead of the names: the tables' words, and 'selects' of the private methods out of them =====
/-- a private method of a class that the tables say can be made, by its rows of tables_1 -/
def lw_okq (q : MethodName × Nat) : Prop := (q.1.cls ≠ "java/lang/invoke/MethodHandle" ∧ q.1.cls ≠ "java/lang/invoke/VarHandle") ∧ Cond.instantiable q.1.cls q.2 ∈ tables_1 ∧ Cond.privateMethod q.1 ∈ tables_1 ∧ Cond.instanceMethod q.1 ∈ tables_1
theorem lw_p0 : lw_okq (⟨"CellBench$Reducer", "orderFirstTwo", "()V"⟩, 7) := ⟨⟨by decide +kernel, by decide +kernel⟩, List.mem_of_getElem? (i := 21) (by decide +kernel), List.mem_of_getElem? (i := 155) (by decide +kernel), List.mem_of_getElem? (i := 156) (by decide +kernel)⟩
theorem lw_p1 : lw_okq (⟨"CellBench$Reducer", "orderLastTwo", "()Z"⟩, 7) := ⟨⟨by decide +kernel, by decide +kernel⟩, List.mem_of_getElem? (i := 21) (by decide +kernel), List.mem_of_getElem? (i := 162) (by decide +kernel), List.mem_of_getElem? (i := 163) (by decide +kernel)⟩
theorem lw_p2 : lw_okq (⟨"CellBench$Reducer", "alignSigns", "()V"⟩, 7) := ⟨⟨by decide +kernel, by decide +kernel⟩, List.mem_of_getElem? (i := 21) (by decide +kernel), List.mem_of_getElem? (i := 166) (by decide +kernel), List.mem_of_getElem? (i := 167) (by decide +kernel)⟩
theorem lw_p3 : lw_okq (⟨"CellBench$Reducer", "shearByX", "()Z"⟩, 7) := ⟨⟨by decide +kernel, by decide +kernel⟩, List.mem_of_getElem? (i := 21) (by decide +kernel), List.mem_of_getElem? (i := 173) (by decide +kernel), List.mem_of_getElem? (i := 174) (by decide +kernel)⟩
theorem lw_p4 : lw_okq (⟨"CellBench$Reducer", "shearByY", "()Z"⟩, 7) := ⟨⟨by decide +kernel, by decide +kernel⟩, List.mem_of_getElem? (i := 21) (by decide +kernel), List.mem_of_getElem? (i := 177) (by decide +kernel), List.mem_of_getElem? (i := 178) (by decide +kernel)⟩
theorem lw_p5 : lw_okq (⟨"CellBench$Reducer", "shearByZ", "()Z"⟩, 7) := ⟨⟨by decide +kernel, by decide +kernel⟩, List.mem_of_getElem? (i := 21) (by decide +kernel), List.mem_of_getElem? (i := 181) (by decide +kernel), List.mem_of_getElem? (i := 182) (by decide +kernel)⟩
theorem lw_p6 : lw_okq (⟨"CellBench$Reducer", "shearBySum", "()Z"⟩, 7) := ⟨⟨by decide +kernel, by decide +kernel⟩, List.mem_of_getElem? (i := 21) (by decide +kernel), List.mem_of_getElem? (i := 185) (by decide +kernel), List.mem_of_getElem? (i := 186) (by decide +kernel)⟩
theorem lw_p7 : lw_okq (⟨"CellBench$Products", "columnProduct", "(II)J"⟩, 6) := ⟨⟨by decide +kernel, by decide +kernel⟩, List.mem_of_getElem? (i := 98) (by decide +kernel), List.mem_of_getElem? (i := 200) (by decide +kernel), List.mem_of_getElem? (i := 201) (by decide +kernel)⟩
theorem lw_p8 : lw_okq (⟨"CellBench$Products", "fitsSecond", "(II)Z"⟩, 6) := ⟨⟨by decide +kernel, by decide +kernel⟩, List.mem_of_getElem? (i := 98) (by decide +kernel), List.mem_of_getElem? (i := 208) (by decide +kernel), List.mem_of_getElem? (i := 209) (by decide +kernel)⟩
theorem lw_p9 : lw_okq (⟨"CellBench$Products", "countThirds", "(II)I"⟩, 6) := ⟨⟨by decide +kernel, by decide +kernel⟩, List.mem_of_getElem? (i := 98) (by decide +kernel), List.mem_of_getElem? (i := 212) (by decide +kernel), List.mem_of_getElem? (i := 213) (by decide +kernel)⟩
theorem lw_p10 : lw_okq (⟨"CellBench$Products", "fitsThird", "(III)Z"⟩, 6) := ⟨⟨by decide +kernel, by decide +kernel⟩, List.mem_of_getElem? (i := 98) (by decide +kernel), List.mem_of_getElem? (i := 216) (by decide +kernel), List.mem_of_getElem? (i := 217) (by decide +kernel)⟩
theorem lw_p11 : lw_okq (⟨"CellBench", "find", "(I)LCellBench$Cell;"⟩, 5) := ⟨⟨by decide +kernel, by decide +kernel⟩, List.mem_of_getElem? (i := 11) (by decide +kernel), List.mem_of_getElem? (i := 249) (by decide +kernel), List.mem_of_getElem? (i := 250) (by decide +kernel)⟩
theorem lw_p12 : lw_okq (⟨"CellBench$MultipleTable", "addAll", "(LCellBench$Products;III)V"⟩, 5) := ⟨⟨by decide +kernel, by decide +kernel⟩, List.mem_of_getElem? (i := 49) (by decide +kernel), List.mem_of_getElem? (i := 290) (by decide +kernel), List.mem_of_getElem? (i := 291) (by decide +kernel)⟩
theorem lw_p13 : lw_okq (⟨"CellBench$MultipleTable", "reduceEdges", "(LCellBench$Products;IIIIII)V"⟩, 5) := ⟨⟨by decide +kernel, by decide +kernel⟩, List.mem_of_getElem? (i := 49) (by decide +kernel), List.mem_of_getElem? (i := 294) (by decide +kernel), List.mem_of_getElem? (i := 295) (by decide +kernel)⟩
theorem lw_p14 : lw_okq (⟨"CellBench$MultipleTable", "countReduced", "()V"⟩, 5) := ⟨⟨by decide +kernel, by decide +kernel⟩, List.mem_of_getElem? (i := 49) (by decide +kernel), List.mem_of_getElem? (i := 302) (by decide +kernel), List.mem_of_getElem? (i := 303) (by decide +kernel)⟩
theorem lw_p15 : lw_okq (⟨"CellBench$MultipleTable", "firstNotBelow", "()I"⟩, 5) := ⟨⟨by decide +kernel, by decide +kernel⟩, List.mem_of_getElem? (i := 49) (by decide +kernel), List.mem_of_getElem? (i := 306) (by decide +kernel), List.mem_of_getElem? (i := 307) (by decide +kernel)⟩
def lw_privs_1 : List (MethodName × Nat) := [(⟨"CellBench$Reducer", "orderFirstTwo", "()V"⟩, 7), (⟨"CellBench$Reducer", "orderLastTwo", "()Z"⟩, 7), (⟨"CellBench$Reducer", "alignSigns", "()V"⟩, 7), (⟨"CellBench$Reducer", "shearByX", "()Z"⟩, 7), (⟨"CellBench$Reducer", "shearByY", "()Z"⟩, 7), (⟨"CellBench$Reducer", "shearByZ", "()Z"⟩, 7), (⟨"CellBench$Reducer", "shearBySum", "()Z"⟩, 7), (⟨"CellBench$Products", "columnProduct", "(II)J"⟩, 6), (⟨"CellBench$Products", "fitsSecond", "(II)Z"⟩, 6), (⟨"CellBench$Products", "countThirds", "(II)I"⟩, 6), (⟨"CellBench$Products", "fitsThird", "(III)Z"⟩, 6), (⟨"CellBench", "find", "(I)LCellBench$Cell;"⟩, 5), (⟨"CellBench$MultipleTable", "addAll", "(LCellBench$Products;III)V"⟩, 5), (⟨"CellBench$MultipleTable", "reduceEdges", "(LCellBench$Products;IIIIII)V"⟩, 5), (⟨"CellBench$MultipleTable", "countReduced", "()V"⟩, 5), (⟨"CellBench$MultipleTable", "firstNotBelow", "()I"⟩, 5)]
theorem lw_r1 : ∀ q ∈ lw_privs_1, lw_okq q := List.forall_mem_cons.mpr ⟨lw_p0, List.forall_mem_cons.mpr ⟨lw_p1, List.forall_mem_cons.mpr ⟨lw_p2, List.forall_mem_cons.mpr ⟨lw_p3, List.forall_mem_cons.mpr ⟨lw_p4, List.forall_mem_cons.mpr ⟨lw_p5, List.forall_mem_cons.mpr ⟨lw_p6, List.forall_mem_cons.mpr ⟨lw_p7, List.forall_mem_cons.mpr ⟨lw_p8, List.forall_mem_cons.mpr ⟨lw_p9, List.forall_mem_cons.mpr ⟨lw_p10, List.forall_mem_cons.mpr ⟨lw_p11, List.forall_mem_cons.mpr ⟨lw_p12, List.forall_mem_cons.mpr ⟨lw_p13, List.forall_mem_cons.mpr ⟨lw_p14, List.forall_mem_cons.mpr ⟨lw_p15, fun _ h => absurd h List.not_mem_nil⟩⟩⟩⟩⟩⟩⟩⟩⟩⟩⟩⟩⟩⟩⟩⟩
theorem lw_p16 : lw_okq (⟨"CellBench$MultipleTable", "orderToReduced", "(I)I"⟩, 5) := ⟨⟨by decide +kernel, by decide +kernel⟩, List.mem_of_getElem? (i := 49) (by decide +kernel), List.mem_of_getElem? (i := 310) (by decide +kernel), List.mem_of_getElem? (i := 311) (by decide +kernel)⟩
theorem lw_p17 : lw_okq (⟨"CellBench$MultipleTable", "insert", "(I)V"⟩, 5) := ⟨⟨by decide +kernel, by decide +kernel⟩, List.mem_of_getElem? (i := 49) (by decide +kernel), List.mem_of_getElem? (i := 323) (by decide +kernel), List.mem_of_getElem? (i := 324) (by decide +kernel)⟩
theorem lw_p18 : lw_okq (⟨"CellBench$MultipleTable", "orderToOther", "(ILCellBench$MultipleTable;I)I"⟩, 5) := ⟨⟨by decide +kernel, by decide +kernel⟩, List.mem_of_getElem? (i := 49) (by decide +kernel), List.mem_of_getElem? (i := 347) (by decide +kernel), List.mem_of_getElem? (i := 348) (by decide +kernel)⟩
theorem lw_p19 : lw_okq (⟨"CellBenchModel", "reduce", "()V"⟩, 14) := ⟨⟨by decide +kernel, by decide +kernel⟩, List.mem_of_getElem? (i := 363) (by decide +kernel), List.mem_of_getElem? (i := 425) (by decide +kernel), List.mem_of_getElem? (i := 426) (by decide +kernel)⟩
theorem lw_p20 : lw_okq (⟨"CellBenchModel", "goes", "()Z"⟩, 14) := ⟨⟨by decide +kernel, by decide +kernel⟩, List.mem_of_getElem? (i := 363) (by decide +kernel), List.mem_of_getElem? (i := 430) (by decide +kernel), List.mem_of_getElem? (i := 431) (by decide +kernel)⟩
theorem lw_p21 : lw_okq (⟨"CellBenchModel", "exchange", "(II)V"⟩, 14) := ⟨⟨by decide +kernel, by decide +kernel⟩, List.mem_of_getElem? (i := 363) (by decide +kernel), List.mem_of_getElem? (i := 437) (by decide +kernel), List.mem_of_getElem? (i := 438) (by decide +kernel)⟩
theorem lw_p22 : lw_okq (⟨"CellBenchModel", "open", "(I)V"⟩, 14) := ⟨⟨by decide +kernel, by decide +kernel⟩, List.mem_of_getElem? (i := 363) (by decide +kernel), List.mem_of_getElem? (i := 442) (by decide +kernel), List.mem_of_getElem? (i := 443) (by decide +kernel)⟩
theorem lw_p23 : lw_okq (⟨"CellBenchModel", "keepsSix", "([JI)Z"⟩, 14) := ⟨⟨by decide +kernel, by decide +kernel⟩, List.mem_of_getElem? (i := 363) (by decide +kernel), List.mem_of_getElem? (i := 446) (by decide +kernel), List.mem_of_getElem? (i := 447) (by decide +kernel)⟩
theorem lw_p24 : lw_okq (⟨"CellBenchModel", "isCell", "(I)Z"⟩, 14) := ⟨⟨by decide +kernel, by decide +kernel⟩, List.mem_of_getElem? (i := 363) (by decide +kernel), List.mem_of_getElem? (i := 457) (by decide +kernel), List.mem_of_getElem? (i := 458) (by decide +kernel)⟩
theorem lw_p25 : lw_okq (⟨"CellBenchModel", "areSame", "(II)Z"⟩, 14) := ⟨⟨by decide +kernel, by decide +kernel⟩, List.mem_of_getElem? (i := 363) (by decide +kernel), List.mem_of_getElem? (i := 469) (by decide +kernel), List.mem_of_getElem? (i := 470) (by decide +kernel)⟩
theorem lw_p26 : lw_okq (⟨"CellBenchModel", "isMultiple", "(II)Z"⟩, 14) := ⟨⟨by decide +kernel, by decide +kernel⟩, List.mem_of_getElem? (i := 363) (by decide +kernel), List.mem_of_getElem? (i := 477) (by decide +kernel), List.mem_of_getElem? (i := 478) (by decide +kernel)⟩
theorem lw_p27 : lw_okq (⟨"CellBenchModel", "multiply", "(II)V"⟩, 14) := ⟨⟨by decide +kernel, by decide +kernel⟩, List.mem_of_getElem? (i := 363) (by decide +kernel), List.mem_of_getElem? (i := 481) (by decide +kernel), List.mem_of_getElem? (i := 482) (by decide +kernel)⟩
theorem lw_p28 : lw_okq (⟨"CellBenchModel", "oneMultiple", "(IIIIIII)V"⟩, 14) := ⟨⟨by decide +kernel, by decide +kernel⟩, List.mem_of_getElem? (i := 363) (by decide +kernel), List.mem_of_getElem? (i := 485) (by decide +kernel), List.mem_of_getElem? (i := 486) (by decide +kernel)⟩
theorem lw_p29 : lw_okq (⟨"CellBenchModel", "compared", "(I)I"⟩, 14) := ⟨⟨by decide +kernel, by decide +kernel⟩, List.mem_of_getElem? (i := 363) (by decide +kernel), List.mem_of_getElem? (i := 489) (by decide +kernel), List.mem_of_getElem? (i := 490) (by decide +kernel)⟩
def lw_privs_2 : List (MethodName × Nat) := [(⟨"CellBench$MultipleTable", "orderToReduced", "(I)I"⟩, 5), (⟨"CellBench$MultipleTable", "insert", "(I)V"⟩, 5), (⟨"CellBench$MultipleTable", "orderToOther", "(ILCellBench$MultipleTable;I)I"⟩, 5), (⟨"CellBenchModel", "reduce", "()V"⟩, 14), (⟨"CellBenchModel", "goes", "()Z"⟩, 14), (⟨"CellBenchModel", "exchange", "(II)V"⟩, 14), (⟨"CellBenchModel", "open", "(I)V"⟩, 14), (⟨"CellBenchModel", "keepsSix", "([JI)Z"⟩, 14), (⟨"CellBenchModel", "isCell", "(I)Z"⟩, 14), (⟨"CellBenchModel", "areSame", "(II)Z"⟩, 14), (⟨"CellBenchModel", "isMultiple", "(II)Z"⟩, 14), (⟨"CellBenchModel", "multiply", "(II)V"⟩, 14), (⟨"CellBenchModel", "oneMultiple", "(IIIIIII)V"⟩, 14), (⟨"CellBenchModel", "compared", "(I)I"⟩, 14)]
theorem lw_r2 : ∀ q ∈ lw_privs_2, lw_okq q := List.forall_mem_cons.mpr ⟨lw_p16, List.forall_mem_cons.mpr ⟨lw_p17, List.forall_mem_cons.mpr ⟨lw_p18, List.forall_mem_cons.mpr ⟨lw_p19, List.forall_mem_cons.mpr ⟨lw_p20, List.forall_mem_cons.mpr ⟨lw_p21, List.forall_mem_cons.mpr ⟨lw_p22, List.forall_mem_cons.mpr ⟨lw_p23, List.forall_mem_cons.mpr ⟨lw_p24, List.forall_mem_cons.mpr ⟨lw_p25, List.forall_mem_cons.mpr ⟨lw_p26, List.forall_mem_cons.mpr ⟨lw_p27, List.forall_mem_cons.mpr ⟨lw_p28, List.forall_mem_cons.mpr ⟨lw_p29, fun _ h => absurd h List.not_mem_nil⟩⟩⟩⟩⟩⟩⟩⟩⟩⟩⟩⟩⟩⟩
def lw_privs : List (MethodName × Nat) := lw_privs_1 ++ (lw_privs_2)
def lw_tbl : List Cond := k2_sels lw_privs ++ tables_1
theorem lw_privs_ok : ∀ q ∈ lw_privs, lw_okq q := by
  show ∀ q ∈ lw_privs_1 ++ (lw_privs_2), lw_okq q
  exact List.forall_mem_append.mpr ⟨lw_r1, lw_r2⟩

def R_Products : String := "CellBench$Products"
def F_Products : u_T := fun k => match k with
  | 0 => ("CellBench$Products", "a", "J", true)
  | 1 => ("CellBench$Products", "b", "J", true)
  | 2 => ("CellBench$Products", "c", "J", true)
  | 3 => ("CellBench$Products", "d", "J", true)
  | 4 => ("CellBench$Products", "e", "J", true)
  | _ => ("CellBench$Products", "f", "J", true)
def t_Products : Nat → FieldType := fun k => match k with
  | 0 => .long
  | 1 => .long
  | 2 => .long
  | 3 => .long
  | 4 => .long
  | _ => .long
theorem n_Products : ∀ a, a < 6 → ∀ b, b < 6 → a ≠ b → (F_Products a).2.1 ≠ (F_Products b).2.1 := by decide +kernel
theorem t_Products_ok : ∀ k, k < 6 → parseFieldDescriptor (F_Products k).2.2.1 = some (t_Products k) := by decide +kernel
def R_Reducer : String := "CellBench$Reducer"
def F_Reducer : u_T := fun k => match k with
  | 0 => ("CellBench$Reducer", "a", "J", false)
  | 1 => ("CellBench$Reducer", "b", "J", false)
  | 2 => ("CellBench$Reducer", "c", "J", false)
  | 3 => ("CellBench$Reducer", "x", "J", false)
  | 4 => ("CellBench$Reducer", "y", "J", false)
  | 5 => ("CellBench$Reducer", "z", "J", false)
  | _ => ("CellBench$Reducer", "shears", "I", false)
def t_Reducer : Nat → FieldType := fun k => match k with
  | 0 => .long
  | 1 => .long
  | 2 => .long
  | 3 => .long
  | 4 => .long
  | 5 => .long
  | _ => .int
theorem n_Reducer : ∀ a, a < 7 → ∀ b, b < 7 → a ≠ b → (F_Reducer a).2.1 ≠ (F_Reducer b).2.1 := by decide +kernel
theorem t_Reducer_ok : ∀ k, k < 7 → parseFieldDescriptor (F_Reducer k).2.2.1 = some (t_Reducer k) := by decide +kernel
def R_Table : String := "CellBench$MultipleTable"
def F_Table : u_T := fun k => match k with
  | 0 => ("CellBench$MultipleTable", "reducer", "LCellBench$Reducer;", true)
  | 1 => ("CellBench$MultipleTable", "rows", "[J", true)
  | 2 => ("CellBench$MultipleTable", "size", "I", false)
  | 3 => ("CellBench$MultipleTable", "filledCell", "I", false)
  | _ => ("CellBench$MultipleTable", "filledN", "I", false)
def t_Table : Nat → FieldType := fun k => match k with
  | 0 => .object "CellBench$Reducer"
  | 1 => .array .long
  | 2 => .int
  | 3 => .int
  | _ => .int
theorem n_Table : ∀ a, a < 5 → ∀ b, b < 5 → a ≠ b → (F_Table a).2.1 ≠ (F_Table b).2.1 := by decide +kernel
theorem t_Table_ok : ∀ k, k < 5 → parseFieldDescriptor (F_Table k).2.2.1 = some (t_Table k) := by decide +kernel
def R_Cell : String := "CellBench$Cell"
def F_Cell : u_T := fun k => match k with
  | 0 => ("CellBench$Cell", "told", "LCellBench$Products;", true)
  | 1 => ("CellBench$Cell", "low", "LCellBench$Products;", true)
  | 2 => ("CellBench$Cell", "symmetry", "I", true)
  | _ => ("CellBench$Cell", "shears", "I", true)
def t_Cell : Nat → FieldType := fun k => match k with
  | 0 => .object "CellBench$Products"
  | 1 => .object "CellBench$Products"
  | 2 => .int
  | _ => .int
theorem n_Cell : ∀ a, a < 4 → ∀ b, b < 4 → a ≠ b → (F_Cell a).2.1 ≠ (F_Cell b).2.1 := by decide +kernel
theorem t_Cell_ok : ∀ k, k < 4 → parseFieldDescriptor (F_Cell k).2.2.1 = some (t_Cell k) := by decide +kernel
def R_Bench : String := "CellBench"
def F_Bench : u_T := fun k => match k with
  | 0 => ("CellBench", "cells", "[LCellBench$Cell;", true)
  | 1 => ("CellBench", "reducer", "LCellBench$Reducer;", true)
  | 2 => ("CellBench", "table", "LCellBench$MultipleTable;", true)
  | 3 => ("CellBench", "otherTable", "LCellBench$MultipleTable;", true)
  | _ => ("CellBench", "count", "I", false)
def t_Bench : Nat → FieldType := fun k => match k with
  | 0 => .array (.object "CellBench$Cell")
  | 1 => .object "CellBench$Reducer"
  | 2 => .object "CellBench$MultipleTable"
  | 3 => .object "CellBench$MultipleTable"
  | _ => .int
theorem n_Bench : ∀ a, a < 5 → ∀ b, b < 5 → a ≠ b → (F_Bench a).2.1 ≠ (F_Bench b).2.1 := by decide +kernel
theorem t_Bench_ok : ∀ k, k < 5 → parseFieldDescriptor (F_Bench k).2.2.1 = some (t_Bench k) := by decide +kernel
def R_Model : String := "CellBenchModel"
def F_Model : u_T := fun k => match k with
  | 0 => ("CellBenchModel", "m", "[I", true)
  | 1 => ("CellBenchModel", "cells", "[J", true)
  | 2 => ("CellBenchModel", "lows", "[J", true)
  | 3 => ("CellBenchModel", "symmetry", "[I", true)
  | 4 => ("CellBenchModel", "stepsOf", "[I", true)
  | 5 => ("CellBenchModel", "cellMany", "I", false)
  | 6 => ("CellBenchModel", "steps", "I", false)
  | 7 => ("CellBenchModel", "six", "[J", true)
  | 8 => ("CellBenchModel", "multi", "[J", true)
  | 9 => ("CellBenchModel", "comes", "[I", true)
  | 10 => ("CellBenchModel", "multis", "I", false)
  | 11 => ("CellBenchModel", "multiCell", "I", false)
  | 12 => ("CellBenchModel", "multiBy", "I", false)
  | _ => ("CellBenchModel", "other", "[J", true)
def t_Model : Nat → FieldType := fun k => match k with
  | 0 => .array .int
  | 1 => .array .long
  | 2 => .array .long
  | 3 => .array .int
  | 4 => .array .int
  | 5 => .int
  | 6 => .int
  | 7 => .array .long
  | 8 => .array .long
  | 9 => .array .int
  | 10 => .int
  | 11 => .int
  | 12 => .int
  | _ => .array .long
theorem n_Model : ∀ a, a < 14 → ∀ b, b < 14 → a ≠ b → (F_Model a).2.1 ≠ (F_Model b).2.1 := by decide +kernel
theorem t_Model_ok : ∀ k, k < 14 → parseFieldDescriptor (F_Model k).2.2.1 = some (t_Model k) := by decide +kernel
abbrev classes : List vw_C := [(R_Products, F_Products, 6), (R_Reducer, F_Reducer, 7), (R_Table, F_Table, 5), (R_Cell, F_Cell, 4), (R_Bench, F_Bench, 5), (R_Model, F_Model, 14)]
def y_isSquare : MethodName := ⟨R_Bench, "isSquare", "(I)Z"⟩
abbrev b_isSquare : ByteArray := prog_1_method_12_code
def y_isMixed : MethodName := ⟨R_Bench, "isMixed", "(I)Z"⟩
abbrev b_isMixed : ByteArray := prog_1_method_13_code
def y_isMultiplier : MethodName := ⟨R_Bench, "isMultiplier", "(I)Z"⟩
abbrev b_isMultiplier : ByteArray := prog_1_method_14_code
def y_isRouteNumber : MethodName := ⟨R_Bench, "isRouteNumber", "(I)Z"⟩
abbrev b_isRouteNumber : ByteArray := prog_1_method_15_code
def y_columnAtEnd : MethodName := ⟨R_Bench, "columnAtEnd", "(I)I"⟩
abbrev b_columnAtEnd : ByteArray := prog_1_method_16_code
def y_P_at : MethodName := ⟨R_Products, "at", "(I)J"⟩
abbrev b_P_at : ByteArray := prog_4_method_2_code
def y_P_det : MethodName := ⟨R_Products, "determinant", "()J"⟩
abbrev b_P_det : ByteArray := prog_4_method_4_code
def y_P_span : MethodName := ⟨R_Products, "spanASpace", "()Z"⟩
abbrev b_P_span : ByteArray := prog_4_method_3_code
def y_P_prod : MethodName := ⟨R_Products, "product", "(JJJJJJ)J"⟩
abbrev b_P_prod : ByteArray := prog_4_method_5_code
def y_P_colp : MethodName := ⟨R_Products, "columnProduct", "(II)J"⟩
abbrev b_P_colp : ByteArray := prog_4_method_6_code
def y_P_fit2 : MethodName := ⟨R_Products, "fitsSecond", "(II)Z"⟩
abbrev b_P_fit2 : ByteArray := prog_4_method_8_code
def y_P_fit3 : MethodName := ⟨R_Products, "fitsThird", "(III)Z"⟩
abbrev b_P_fit3 : ByteArray := prog_4_method_9_code
def y_P_kept : MethodName := ⟨R_Products, "areKeptBy", "(III)Z"⟩
abbrev b_P_kept : ByteArray := prog_4_method_7_code
def y_P_thirds : MethodName := ⟨R_Products, "countThirds", "(II)I"⟩
abbrev b_P_thirds : ByteArray := prog_4_method_11_code
def y_P_keepers : MethodName := ⟨R_Products, "countKeepers", "()I"⟩
abbrev b_P_keepers : ByteArray := prog_4_method_10_code
def y_Long_cmp : MethodName := ⟨"java/lang/Long", "compare", "(JJ)I"⟩
abbrev b_Long_cmp : ByteArray := prog_8_method_42_code
def y_R_setSq : MethodName := ⟨R_Reducer, "setSquares", "(JJJ)V"⟩
abbrev b_R_setSq : ByteArray := prog_5_method_3_code
def y_R_setMx : MethodName := ⟨R_Reducer, "setMixed", "(JJJ)V"⟩
abbrev b_R_setMx : ByteArray := prog_5_method_4_code
def y_R_shears : MethodName := ⟨R_Reducer, "shears", "()I"⟩
abbrev b_R_shears : ByteArray := prog_5_method_7_code
def y_R_at : MethodName := ⟨R_Reducer, "at", "(I)J"⟩
abbrev b_R_at : ByteArray := prog_5_method_8_code
def y_R_ord1 : MethodName := ⟨R_Reducer, "orderFirstTwo", "()V"⟩
abbrev b_R_ord1 : ByteArray := prog_5_method_9_code
def y_R_ord2 : MethodName := ⟨R_Reducer, "orderLastTwo", "()Z"⟩
abbrev b_R_ord2 : ByteArray := prog_5_method_10_code
def y_R_align : MethodName := ⟨R_Reducer, "alignSigns", "()V"⟩
abbrev b_R_align : ByteArray := prog_5_method_11_code
def y_R_shX : MethodName := ⟨R_Reducer, "shearByX", "()Z"⟩
abbrev b_R_shX : ByteArray := prog_5_method_12_code
def y_R_shY : MethodName := ⟨R_Reducer, "shearByY", "()Z"⟩
abbrev b_R_shY : ByteArray := prog_5_method_13_code
def y_R_shZ : MethodName := ⟨R_Reducer, "shearByZ", "()Z"⟩
abbrev b_R_shZ : ByteArray := prog_5_method_14_code
def y_R_shS : MethodName := ⟨R_Reducer, "shearBySum", "()Z"⟩
abbrev b_R_shS : ByteArray := prog_5_method_15_code
def y_R_run : MethodName := ⟨R_Reducer, "run", "()V"⟩
abbrev b_R_run : ByteArray := prog_5_method_5_code
def y_R_reduce : MethodName := ⟨R_Reducer, "reduce", "(LCellBench$Products;)V"⟩
abbrev b_R_reduce : ByteArray := prog_5_method_2_code
def y_T_size : MethodName := ⟨R_Table, "size", "()I"⟩
abbrev b_T_size : ByteArray := prog_3_method_2_code
def y_T_at : MethodName := ⟨R_Table, "at", "(II)J"⟩
abbrev b_T_at : ByteArray := prog_3_method_3_code
def y_T_ordR : MethodName := ⟨R_Table, "orderToReduced", "(I)I"⟩
abbrev b_T_ordR : ByteArray := prog_3_method_9_code
def y_T_first : MethodName := ⟨R_Table, "firstNotBelow", "()I"⟩
abbrev b_T_first : ByteArray := prog_3_method_8_code
def y_T_insert : MethodName := ⟨R_Table, "insert", "(I)V"⟩
abbrev b_T_insert : ByteArray := prog_3_method_10_code
def y_T_count : MethodName := ⟨R_Table, "countReduced", "()V"⟩
abbrev b_T_count : ByteArray := prog_3_method_7_code
def y_T_edges : MethodName := ⟨R_Table, "reduceEdges", "(LCellBench$Products;IIIIII)V"⟩
abbrev b_T_edges : ByteArray := prog_3_method_6_code
def y_T_addAll : MethodName := ⟨R_Table, "addAll", "(LCellBench$Products;III)V"⟩
abbrev b_T_addAll : ByteArray := prog_3_method_5_code
def y_T_fill : MethodName := ⟨R_Table, "fill", "(ILCellBench$Products;I)V"⟩
abbrev b_T_fill : ByteArray := prog_3_method_4_code
def y_T_ordO : MethodName := ⟨R_Table, "orderToOther", "(ILCellBench$MultipleTable;I)I"⟩
abbrev b_T_ordO : ByteArray := prog_3_method_12_code
def y_T_shared : MethodName := ⟨R_Table, "countShared", "(LCellBench$MultipleTable;)I"⟩
abbrev b_T_shared : ByteArray := prog_3_method_11_code
def y_P_init : MethodName := ⟨R_Products, "<init>", "(JJJJJJ)V"⟩
abbrev b_P_init : ByteArray := prog_4_method_1_code
def y_R_init : MethodName := ⟨R_Reducer, "<init>", "()V"⟩
abbrev b_R_init : ByteArray := prog_5_method_1_code
def y_R_result : MethodName := ⟨R_Reducer, "result", "()LCellBench$Products;"⟩
abbrev b_R_result : ByteArray := prog_5_method_6_code
def y_C_init : MethodName := ⟨R_Cell, "<init>", "(LCellBench$Products;LCellBench$Products;II)V"⟩
abbrev b_C_init : ByteArray := prog_2_method_1_code
def y_T_init : MethodName := ⟨R_Table, "<init>", "(LCellBench$Reducer;)V"⟩
abbrev b_T_init : ByteArray := prog_3_method_1_code
def y_P_order : MethodName := ⟨R_Products, "order", "(LCellBench$Products;)I"⟩
abbrev b_P_order : ByteArray := prog_4_method_12_code
def y_B_find : MethodName := ⟨R_Bench, "find", "(I)LCellBench$Cell;"⟩
abbrev b_B_find : ByteArray := prog_1_method_11_code
def y_B_reduced : MethodName := ⟨R_Bench, "reduced", "(II)J"⟩
abbrev b_B_reduced : ByteArray := prog_1_method_3_code
def y_B_keeps : MethodName := ⟨R_Bench, "keeps", "(II)Z"⟩
abbrev b_B_keeps : ByteArray := prog_1_method_4_code
def y_B_step : MethodName := ⟨R_Bench, "step", "(IIII)J"⟩
abbrev b_B_step : ByteArray := prog_1_method_9_code
def y_B_same : MethodName := ⟨R_Bench, "same", "(I)I"⟩
abbrev b_B_same : ByteArray := prog_1_method_5_code
def y_B_shorter : MethodName := ⟨R_Bench, "shorter", "(IJ)I"⟩
abbrev b_B_shorter : ByteArray := prog_1_method_10_code
def y_B_multiples : MethodName := ⟨R_Bench, "multiples", "(II)I"⟩
abbrev b_B_multiples : ByteArray := prog_1_method_6_code
def y_B_multiple : MethodName := ⟨R_Bench, "multiple", "(IIII)J"⟩
abbrev b_B_multiple : ByteArray := prog_1_method_7_code
def y_B_common : MethodName := ⟨R_Bench, "common", "(IIII)I"⟩
abbrev b_B_common : ByteArray := prog_1_method_8_code
def y_B_init : MethodName := ⟨R_Bench, "<init>", "()V"⟩
abbrev b_B_init : ByteArray := prog_1_method_1_code
def y_B_cell : MethodName := ⟨R_Bench, "cell", "(IIIIII)I"⟩
abbrev b_B_cell : ByteArray := prog_1_method_2_code
def y_M_between : MethodName := ⟨R_Model, "between", "(JJJ)Z"⟩
abbrev b_M_between : ByteArray := prog_7_method_4_code
def y_M_size : MethodName := ⟨R_Model, "size", "(J)J"⟩
abbrev b_M_size : ByteArray := prog_7_method_7_code
def y_M_det : MethodName := ⟨R_Model, "determinantOf", "([JI)J"⟩
abbrev b_M_det : ByteArray := prog_7_method_5_code
def y_M_dot : MethodName := ⟨R_Model, "dot", "([JIJJJJJJ)J"⟩
abbrev b_M_dot : ByteArray := prog_7_method_11_code
def y_M_open : MethodName := ⟨R_Model, "open", "(I)V"⟩
abbrev b_M_open : ByteArray := prog_7_method_3_code
def y_M_isCell : MethodName := ⟨R_Model, "isCell", "(I)Z"⟩
abbrev b_M_isCell : ByteArray := prog_7_method_13_code
def y_M_isMul : MethodName := ⟨R_Model, "isMultiple", "(II)Z"⟩
abbrev b_M_isMul : ByteArray := prog_7_method_21_code
def y_M_keeps6 : MethodName := ⟨R_Model, "keepsSix", "([JI)Z"⟩
abbrev b_M_keeps6 : ByteArray := prog_7_method_12_code
def y_M_exch : MethodName := ⟨R_Model, "exchange", "(II)V"⟩
abbrev b_M_exch : ByteArray := prog_7_method_8_code
def y_M_goes : MethodName := ⟨R_Model, "goes", "()Z"⟩
abbrev b_M_goes : ByteArray := prog_7_method_10_code
def y_M_reduce : MethodName := ⟨R_Model, "reduce", "()V"⟩
abbrev b_M_reduce : ByteArray := prog_7_method_9_code
def y_M_areSame : MethodName := ⟨R_Model, "areSame", "(II)Z"⟩
abbrev b_M_areSame : ByteArray := prog_7_method_17_code
def y_M_same : MethodName := ⟨R_Model, "same", "(I)I"⟩
abbrev b_M_same : ByteArray := prog_7_method_16_code
def y_M_reduced : MethodName := ⟨R_Model, "reduced", "(II)J"⟩
abbrev b_M_reduced : ByteArray := prog_7_method_14_code
def y_M_keeps : MethodName := ⟨R_Model, "keeps", "(II)Z"⟩
abbrev b_M_keeps : ByteArray := prog_7_method_15_code
def y_M_step : MethodName := ⟨R_Model, "step", "(IIII)J"⟩
abbrev b_M_step : ByteArray := prog_7_method_25_code
def y_M_comp : MethodName := ⟨R_Model, "compared", "(I)I"⟩
abbrev b_M_comp : ByteArray := prog_7_method_20_code
abbrev CT : Type := ClassId × ClassId × ClassId
abbrev TYS (ct : CT) : List (ClassId × FieldType) := [(ct.1, .long), (ct.2.1, .object R_Cell), (ct.2.2, .int)]
abbrev P6 : Type := Int64 × Int64 × Int64 × Int64 × Int64 × Int64
def nws : List Cond := [.fieldLinkNest "CellBench$Reducer" 13 "CellBench$Products" "a" "J" "CellBench", .fieldLinkNest "CellBench$Reducer" 19 "CellBench$Products" "b" "J" "CellBench", .fieldLinkNest "CellBench$Reducer" 22 "CellBench$Products" "c" "J" "CellBench", .fieldLinkNest "CellBench$Reducer" 29 "CellBench$Products" "d" "J" "CellBench", .fieldLinkNest "CellBench$Reducer" 32 "CellBench$Products" "e" "J" "CellBench", .fieldLinkNest "CellBench$Reducer" 35 "CellBench$Products" "f" "J" "CellBench"]
theorem nws_on : ∀ w ∈ nws, w.onTables = true := by decide +kernel
theorem nws_warm {s U : State} (hW : s.WarmedH U.vm) : ∀ w ∈ nws, va_Nw w s → va_Nw w U := by
  intro w hw h
  simp only [nws, List.mem_cons, List.not_mem_nil, or_false] at hw
  rcases hw with rfl | rfl | rfl | rfl | rfl | rfl <;> exact va_Nw.warmF hW h
theorem nm_0 : Cond.fieldLinkNest "CellBench$Reducer" 13 "CellBench$Products" "a" "J" "CellBench" ∈ nws := List.mem_of_getElem? (i := 0) rfl
theorem nm_1 : Cond.fieldLinkNest "CellBench$Reducer" 19 "CellBench$Products" "b" "J" "CellBench" ∈ nws := List.mem_of_getElem? (i := 1) rfl
theorem nm_2 : Cond.fieldLinkNest "CellBench$Reducer" 22 "CellBench$Products" "c" "J" "CellBench" ∈ nws := List.mem_of_getElem? (i := 2) rfl
theorem nm_3 : Cond.fieldLinkNest "CellBench$Reducer" 29 "CellBench$Products" "d" "J" "CellBench" ∈ nws := List.mem_of_getElem? (i := 3) rfl
theorem nm_4 : Cond.fieldLinkNest "CellBench$Reducer" 32 "CellBench$Products" "e" "J" "CellBench" ∈ nws := List.mem_of_getElem? (i := 4) rfl
theorem nm_5 : Cond.fieldLinkNest "CellBench$Reducer" 35 "CellBench$Products" "f" "J" "CellBench" ∈ nws := List.mem_of_getElem? (i := 5) rfl
-- the tables' good words, one list for every method
def GW : List Cond := lw_tbl.filter goodWord
theorem gw_good {w : Cond} (h : w ∈ GW) : (w.onTables && w.keeps) = true ∨ ∃ ty, w = .arrayClass ty := good_of_word (List.mem_filter.mp h).2
theorem gw_in {w : Cond} (i : Nat) (h : lw_tbl[i]? = some w) (g : goodWord w = true) : w ∈ GW := List.mem_filter.mpr ⟨List.mem_of_getElem? h, g⟩
theorem gi {z : Cond} (hz : z ∈ GW) : GoodIn GW (z :: GW) := fun w hw => by
  rcases List.mem_cons.mp hw with rfl | h
  · exact ⟨hz, gw_good hz⟩
  · exact ⟨h, gw_good h⟩
theorem giV {own C : String} {idx : Nat} {y : MethodName} {ws : List Cond} (h1 : Cond.methodLink own idx y ∈ GW) (h2 : Cond.instanceMethod y ∈ GW) (h3 : Cond.selects C y y ∈ GW) (h4 : Cond.initialized C ∈ GW) (hg : GoodIn GW ws) : GoodIn GW (wsV own idx C y ws) := fun w hw => by
  unfold wsV at hw
  rcases List.mem_append.mp hw with h | h
  · simp only [List.mem_cons, List.not_mem_nil, or_false] at h
    rcases h with rfl | rfl | rfl | rfl
    · exact ⟨h1, gw_good h1⟩
    · exact ⟨h2, gw_good h2⟩
    · exact ⟨h3, gw_good h3⟩
    · exact ⟨h4, gw_good h4⟩
  · exact hg w h
theorem giS {own : String} {idx : Nat} {y : MethodName} {ws : List Cond} (h1 : Cond.methodLink own idx y ∈ GW) (h2 : Cond.static y ∈ GW) (h4 : Cond.initialized own ∈ GW) (hg : GoodIn GW ws) : GoodIn GW (wsS own idx y ws) := fun w hw => by
  unfold wsS at hw
  rcases List.mem_append.mp hw with h | h
  · simp only [List.mem_cons, List.not_mem_nil, or_false] at h
    rcases h with rfl | rfl | rfl
    · exact ⟨h1, gw_good h1⟩
    · exact ⟨h2, gw_good h2⟩
    · exact ⟨h4, gw_good h4⟩
  · exact hg w h
theorem ht_tl {z : Cond} {args : Array Value} {s : State} (h : ∀ w ∈ z :: GW, w.before args s = true) : ∀ w ∈ GW, w.before args s = true := fun w hw => h w (List.mem_cons_of_mem _ hw)
-- what holds of the tables in every state: the classes, the array classes, the links between nest mates
def NW (U : State) : Prop := ∀ w ∈ nws, va_Nw w U
theorem NW.of {w : Cond} {U : State} (h : NW U) (hm : w ∈ nws) : va_Nw w U := h w hm
theorem NW.vm {u U : State} (e : u.vm = U.vm) (h : NW u) : NW U := fun w hw => va_tabs (nws_on w hw) e (h w hw)
def KK (D : va_G) (ct : CT) (U : State) : Prop := va_K D classes (TYS ct) U ∧ NW U ∧ va_AO R_Cell U
theorem KK.warm {D : va_G} {ct : CT} {s U : State} (hW : s.WarmedH U.vm) (h : KK D ct s) : KK D ct U := ⟨va_K.moved hW.alike h.1, fun w hw => nws_warm hW w hw (h.2.1 w hw), va_AO.moved hW.alike h.2.2⟩
theorem KK.call {D : va_G} {ct : CT} {U : State} {g : JFrame} {mk : MethodId} {a : Array Value} (h : KK D ct U) : KK D ct (U.calling g mk a) := ⟨va_K.moved (u := U) (U := U.calling g mk a) (Vm.Alike.refl U.vm) h.1, NW.vm (u := U) (U := U.calling g mk a) rfl h.2.1, va_AO.moved (u := U) (U := U.calling g mk a) (Vm.Alike.refl U.vm) h.2.2⟩
def PreP (D : va_G) (ct : CT) (ws : va_W) (U : State) : Prop := va_P D classes ws U.heap ∧ KK D ct U
def PreM (D : va_G) (ct : CT) (A : Nat → Prop) (ws : va_W) (U : State) : Prop := (∀ q : Nat, U.heap.size ≤ q → A q) ∧ va_P D classes ws U.heap ∧ va_D A ws ∧ KK D ct U
theorem blindP {D : va_G} {ct : CT} {ws : va_W} {av : List Value} : FrameBlind (va_Pc av (PreP D ct ws)) := fun _ _ _ _ q => ⟨q.1, q.2.1, q.2.2.call⟩
theorem blindM {D : va_G} {ct : CT} {A : Nat → Prop} {ws : va_W} {av : List Value} : FrameBlind (va_Pc av (PreM D ct A ws)) := fun _ _ _ _ q => ⟨q.1, q.2.1, q.2.2.1, q.2.2.2.1, q.2.2.2.2.call⟩
section PRE
variable {D : va_G} {ct : CT} {ws : va_W} {A : Nat → Prop} {s : State} {H : Heap} {locs : List Loc} {C : String} {b : Addr} {As : List Value}
theorem preV (hP : va_P D classes ws H) (hKK : KK D ct s) (hr : ∃ cell : Cell, H[b]? = some cell ∧ cell.vm.isStatics = false ∧ s.vm.findClass C = some cell.cls) : PreV s H C b (va_Pc (.ref b :: As) (PreP D ct ws)) As :=
  ⟨blindP, hr, fun _ hU hW => ⟨rfl, by rw [hU]; exact hP, hKK.warm hW⟩⟩
theorem preS (hP : va_P D classes ws H) (hKK : KK D ct s) : PreS s H (va_Pc As (PreP D ct ws)) As :=
  ⟨blindP, fun _ hU hW => ⟨rfl, by rw [hU]; exact hP, hKK.warm hW⟩⟩
theorem preVM (hA : ∀ q : Nat, s.heap.size ≤ q → A q) (hS : va_S A s.heap H locs) (hP : va_P D classes ws H) (hD : va_D A ws) (hKK : KK D ct s) (hr : ∃ cell : Cell, H[b]? = some cell ∧ cell.vm.isStatics = false ∧ s.vm.findClass C = some cell.cls) : PreV s H C b (va_Pc (.ref b :: As) (PreM D ct A ws)) As :=
  ⟨blindM, hr, fun _ hU hW => ⟨rfl, fun q hq => hA q (Nat.le_trans hS.1 (by rw [hU] at hq; exact hq)), by rw [hU]; exact hP, hD, hKK.warm hW⟩⟩
theorem preSM (hA : ∀ q : Nat, s.heap.size ≤ q → A q) (hS : va_S A s.heap H locs) (hP : va_P D classes ws H) (hD : va_D A ws) (hKK : KK D ct s) : PreS s H (va_Pc As (PreM D ct A ws)) As :=
  ⟨blindM, fun _ hU hW => ⟨rfl, fun q hq => hA q (Nat.le_trans hS.1 (by rw [hU] at hq; exact hq)), by rw [hU]; exact hP, hD, hKK.warm hW⟩⟩
end PRE
-- an index, a copy: what the program looks at
def inb (i : Int32) (n : Nat) : Bool := decide (0 ≤ i.toInt ∧ i.toInt < n)
theorem inb_in {i : Int32} {n : Nat} (h : inb i n = true) : vp_in i n := vp_in_iff.mpr (of_decide_eq_true h)
def cpk (sp dp n : Int32) (n0 n1 : Nat) : Bool := decide (((¬ sp < 0 ∧ ¬ dp < 0) ∧ ¬ n < 0) ∧ sp.toNatClampNeg + n.toNatClampNeg ≤ n0 ∧ dp.toNatClampNeg + n.toNatClampNeg ≤ n1)
section CPK
variable {sp dp n : Int32} {n0 n1 : Nat}
theorem cpk_1 (h : cpk sp dp n n0 n1 = true) : ¬ sp < 0 := (of_decide_eq_true h).1.1.1
theorem cpk_2 (h : cpk sp dp n n0 n1 = true) : ¬ dp < 0 := (of_decide_eq_true h).1.1.2
theorem cpk_3 (h : cpk sp dp n n0 n1 = true) : ¬ n < 0 := (of_decide_eq_true h).1.2
theorem cpk_4 (h : cpk sp dp n n0 n1 = true) : sp.toNatClampNeg + n.toNatClampNeg ≤ n0 := (of_decide_eq_true h).2.1
theorem cpk_5 (h : cpk sp dp n n0 n1 = true) : dp.toNatClampNeg + n.toNatClampNeg ≤ n1 := (of_decide_eq_true h).2.2
end CPK
-- a new array's class is the one that the tables know
theorem newJ {D : va_G} {ct : CT} {cA : ClassId} {s : State} (hK : va_K D classes (TYS ct ++ [(cA, .long)]) s) : cA = ct.1 :=
  Option.some.inj ((va_nm_long (hK.2 3 (cA, .long) rfl).2).symm.trans (va_nm_long (hK.2 0 (ct.1, .long) rfl).2))
theorem newI {D : va_G} {ct : CT} {cA : ClassId} {s : State} (hK : va_K D classes (TYS ct ++ [(cA, .int)]) s) : cA = ct.2.2 :=
  Option.some.inj ((va_nm_int (hK.2 3 (cA, .int) rfl).2).symm.trans (va_nm_int (hK.2 2 (ct.2.2, .int) rfl).2))
theorem newQ {D : va_G} {ct : CT} {cA : ClassId} {s : State} (hK : va_K D classes (TYS ct ++ [(cA, .object R_Cell)]) s) : cA = ct.2.1 := by
  obtain ⟨k1, c1, a1, a2, a3, a4⟩ := (hK.2 3 (cA, .object R_Cell) rfl).2
  obtain ⟨k2, c2, b1, b2, b3, b4⟩ := (hK.2 1 (ct.2.1, .object R_Cell) rfl).2
  have e : c1 = c2 := Option.some.inj (a3.symm.trans b3)
  subst e
  exact Option.some.inj (a4.symm.trans b4)
end
section
set_option maxRecDepth 20000 in
theorem tm_0 : (Cond.selects R_Reducer y_R_ord1 y_R_ord1) ∈ GW := gw_in 0 (by first | rfl | decide +kernel) rfl
set_option maxRecDepth 20000 in
theorem tm_1 : (Cond.selects R_Reducer y_R_ord2 y_R_ord2) ∈ GW := gw_in 1 (by first | rfl | decide +kernel) rfl
set_option maxRecDepth 20000 in
theorem tm_2 : (Cond.selects R_Reducer y_R_align y_R_align) ∈ GW := gw_in 2 (by first | rfl | decide +kernel) rfl
set_option maxRecDepth 20000 in
theorem tm_3 : (Cond.selects R_Reducer y_R_shX y_R_shX) ∈ GW := gw_in 3 (by first | rfl | decide +kernel) rfl
set_option maxRecDepth 20000 in
theorem tm_4 : (Cond.selects R_Reducer y_R_shY y_R_shY) ∈ GW := gw_in 4 (by first | rfl | decide +kernel) rfl
set_option maxRecDepth 20000 in
theorem tm_5 : (Cond.selects R_Reducer y_R_shZ y_R_shZ) ∈ GW := gw_in 5 (by first | rfl | decide +kernel) rfl
set_option maxRecDepth 20000 in
theorem tm_6 : (Cond.selects R_Reducer y_R_shS y_R_shS) ∈ GW := gw_in 6 (by first | rfl | decide +kernel) rfl
set_option maxRecDepth 20000 in
theorem tm_7 : (Cond.selects R_Products y_P_colp y_P_colp) ∈ GW := gw_in 7 (by first | rfl | decide +kernel) rfl
set_option maxRecDepth 20000 in
theorem tm_8 : (Cond.selects R_Products y_P_fit2 y_P_fit2) ∈ GW := gw_in 8 (by first | rfl | decide +kernel) rfl
set_option maxRecDepth 20000 in
theorem tm_9 : (Cond.selects R_Products y_P_thirds y_P_thirds) ∈ GW := gw_in 9 (by first | rfl | decide +kernel) rfl
set_option maxRecDepth 20000 in
theorem tm_10 : (Cond.selects R_Products y_P_fit3 y_P_fit3) ∈ GW := gw_in 10 (by first | rfl | decide +kernel) rfl
set_option maxRecDepth 20000 in
theorem tm_11 : (Cond.selects R_Bench y_B_find y_B_find) ∈ GW := gw_in 11 (by first | rfl | decide +kernel) rfl
set_option maxRecDepth 20000 in
theorem tm_12 : (Cond.selects R_Table y_T_addAll y_T_addAll) ∈ GW := gw_in 12 (by first | rfl | decide +kernel) rfl
set_option maxRecDepth 20000 in
theorem tm_13 : (Cond.selects R_Table y_T_edges y_T_edges) ∈ GW := gw_in 13 (by first | rfl | decide +kernel) rfl
set_option maxRecDepth 20000 in
theorem tm_14 : (Cond.selects R_Table y_T_count y_T_count) ∈ GW := gw_in 14 (by first | rfl | decide +kernel) rfl
set_option maxRecDepth 20000 in
theorem tm_15 : (Cond.selects R_Table y_T_first y_T_first) ∈ GW := gw_in 15 (by first | rfl | decide +kernel) rfl
set_option maxRecDepth 20000 in
theorem tm_16 : (Cond.selects R_Table y_T_ordR y_T_ordR) ∈ GW := gw_in 16 (by first | rfl | decide +kernel) rfl
set_option maxRecDepth 20000 in
theorem tm_17 : (Cond.selects R_Table y_T_insert y_T_insert) ∈ GW := gw_in 17 (by first | rfl | decide +kernel) rfl
set_option maxRecDepth 20000 in
theorem tm_18 : (Cond.selects R_Table y_T_ordO y_T_ordO) ∈ GW := gw_in 18 (by first | rfl | decide +kernel) rfl
set_option maxRecDepth 20000 in
theorem tm_20 : (Cond.selects R_Model y_M_goes y_M_goes) ∈ GW := gw_in 20 (by first | rfl | decide +kernel) rfl
set_option maxRecDepth 20000 in
theorem tm_21 : (Cond.selects R_Model y_M_exch y_M_exch) ∈ GW := gw_in 21 (by first | rfl | decide +kernel) rfl
set_option maxRecDepth 20000 in
theorem tm_24 : (Cond.selects R_Model y_M_isCell y_M_isCell) ∈ GW := gw_in 24 (by first | rfl | decide +kernel) rfl
set_option maxRecDepth 20000 in
theorem tm_25 : (Cond.selects R_Model y_M_areSame y_M_areSame) ∈ GW := gw_in 25 (by first | rfl | decide +kernel) rfl
set_option maxRecDepth 20000 in
theorem tm_31 : (Cond.initialized R_Bench) ∈ GW := gw_in 31 (by first | rfl | decide +kernel) rfl
set_option maxRecDepth 20000 in
theorem tm_32 : (Cond.initialized R_Reducer) ∈ GW := gw_in 32 (by first | rfl | decide +kernel) rfl
set_option maxRecDepth 20000 in
theorem tm_33 : (Cond.initialized R_Table) ∈ GW := gw_in 33 (by first | rfl | decide +kernel) rfl
set_option maxRecDepth 20000 in
theorem tm_34 : (Cond.initialized R_Model) ∈ GW := gw_in 34 (by first | rfl | decide +kernel) rfl
set_option maxRecDepth 20000 in
theorem tm_35 : (Cond.initialized R_Products) ∈ GW := gw_in 35 (by first | rfl | decide +kernel) rfl
set_option maxRecDepth 20000 in
theorem tm_36 : (Cond.initialized "java/lang/Math") ∈ GW := gw_in 36 (by first | rfl | decide +kernel) rfl
set_option maxRecDepth 20000 in
theorem tm_37 : (Cond.initialized "java/lang/Long") ∈ GW := gw_in 37 (by first | rfl | decide +kernel) rfl
set_option maxRecDepth 20000 in
theorem tm_38 : (Cond.initialized R_Cell) ∈ GW := gw_in 38 (by first | rfl | decide +kernel) rfl
set_option maxRecDepth 20000 in
theorem tm_39 : (Cond.initialized "java/lang/System") ∈ GW := gw_in 39 (by first | rfl | decide +kernel) rfl
set_option maxRecDepth 20000 in
theorem tm_44 : (Cond.code y_B_init b_B_init 1 none) ∈ GW := gw_in 44 (by first | rfl | decide +kernel) rfl
set_option maxRecDepth 20000 in
theorem tm_45 : (Cond.methodLink R_Bench 1 objectInit) ∈ GW := gw_in 45 (by first | rfl | decide +kernel) rfl
set_option maxRecDepth 20000 in
theorem tm_46 : (Cond.instanceMethod objectInit) ∈ GW := gw_in 46 (by first | rfl | decide +kernel) rfl
set_option maxRecDepth 20000 in
theorem tm_47 : (Cond.code objectInit ⟨#[0xb1]⟩ 1 none) ∈ GW := gw_in 47 (by first | rfl | decide +kernel) rfl
set_option maxRecDepth 20000 in
theorem tm_48 : (Cond.classLink R_Bench 9 R_Cell) ∈ GW := gw_in 48 (by first | rfl | decide +kernel) rfl
set_option maxRecDepth 20000 in
theorem tm_50 : (Cond.classLink R_Bench 15 R_Reducer) ∈ GW := gw_in 50 (by first | rfl | decide +kernel) rfl
set_option maxRecDepth 20000 in
theorem tm_51 : (Cond.instantiable R_Reducer 7) ∈ GW := gw_in 51 (by first | rfl | decide +kernel) rfl
set_option maxRecDepth 20000 in
theorem tm_52 : (Cond.methodLink R_Bench 17 y_R_init) ∈ GW := gw_in 52 (by first | rfl | decide +kernel) rfl
set_option maxRecDepth 20000 in
theorem tm_53 : (Cond.instanceMethod y_R_init) ∈ GW := gw_in 53 (by first | rfl | decide +kernel) rfl
set_option maxRecDepth 20000 in
theorem tm_54 : (Cond.code y_R_init b_R_init 1 none) ∈ GW := gw_in 54 (by first | rfl | decide +kernel) rfl
set_option maxRecDepth 20000 in
theorem tm_55 : (Cond.methodLink R_Reducer 1 objectInit) ∈ GW := gw_in 55 (by first | rfl | decide +kernel) rfl
set_option maxRecDepth 20000 in
theorem tm_56 : (Cond.fieldLink R_Reducer 44 "CellBench$Reducer" "a" "J") ∈ GW := gw_in 56 (by first | rfl | decide +kernel) rfl
set_option maxRecDepth 20000 in
theorem tm_57 : (Cond.fieldLink R_Reducer 45 "CellBench$Reducer" "b" "J") ∈ GW := gw_in 57 (by first | rfl | decide +kernel) rfl
set_option maxRecDepth 20000 in
theorem tm_58 : (Cond.fieldLink R_Reducer 46 "CellBench$Reducer" "c" "J") ∈ GW := gw_in 58 (by first | rfl | decide +kernel) rfl
set_option maxRecDepth 20000 in
theorem tm_59 : (Cond.fieldLink R_Reducer 49 "CellBench$Reducer" "x" "J") ∈ GW := gw_in 59 (by first | rfl | decide +kernel) rfl
set_option maxRecDepth 20000 in
theorem tm_60 : (Cond.fieldLink R_Reducer 52 "CellBench$Reducer" "y" "J") ∈ GW := gw_in 60 (by first | rfl | decide +kernel) rfl
set_option maxRecDepth 20000 in
theorem tm_61 : (Cond.fieldLink R_Reducer 55 "CellBench$Reducer" "z" "J") ∈ GW := gw_in 61 (by first | rfl | decide +kernel) rfl
set_option maxRecDepth 20000 in
theorem tm_62 : (Cond.fieldLink R_Reducer 7 "CellBench$Reducer" "shears" "I") ∈ GW := gw_in 62 (by first | rfl | decide +kernel) rfl
set_option maxRecDepth 20000 in
theorem tm_63 : (Cond.lays "CellBench$Reducer" "CellBench$Reducer" "a" "J") ∈ GW := gw_in 63 (by first | rfl | decide +kernel) rfl
set_option maxRecDepth 20000 in
theorem tm_65 : (Cond.lays "CellBench$Reducer" "CellBench$Reducer" "b" "J") ∈ GW := gw_in 65 (by first | rfl | decide +kernel) rfl
set_option maxRecDepth 20000 in
theorem tm_67 : (Cond.lays "CellBench$Reducer" "CellBench$Reducer" "c" "J") ∈ GW := gw_in 67 (by first | rfl | decide +kernel) rfl
set_option maxRecDepth 20000 in
theorem tm_69 : (Cond.lays "CellBench$Reducer" "CellBench$Reducer" "x" "J") ∈ GW := gw_in 69 (by first | rfl | decide +kernel) rfl
set_option maxRecDepth 20000 in
theorem tm_71 : (Cond.lays "CellBench$Reducer" "CellBench$Reducer" "y" "J") ∈ GW := gw_in 71 (by first | rfl | decide +kernel) rfl
set_option maxRecDepth 20000 in
theorem tm_73 : (Cond.lays "CellBench$Reducer" "CellBench$Reducer" "z" "J") ∈ GW := gw_in 73 (by first | rfl | decide +kernel) rfl
set_option maxRecDepth 20000 in
theorem tm_75 : (Cond.lays "CellBench$Reducer" "CellBench$Reducer" "shears" "I") ∈ GW := gw_in 75 (by first | rfl | decide +kernel) rfl
set_option maxRecDepth 20000 in
theorem tm_78 : (Cond.classLink R_Bench 22 R_Table) ∈ GW := gw_in 78 (by first | rfl | decide +kernel) rfl
set_option maxRecDepth 20000 in
theorem tm_79 : (Cond.instantiable R_Table 5) ∈ GW := gw_in 79 (by first | rfl | decide +kernel) rfl
set_option maxRecDepth 20000 in
theorem tm_80 : (Cond.methodLink R_Bench 24 y_T_init) ∈ GW := gw_in 80 (by first | rfl | decide +kernel) rfl
set_option maxRecDepth 20000 in
theorem tm_81 : (Cond.instanceMethod y_T_init) ∈ GW := gw_in 81 (by first | rfl | decide +kernel) rfl
set_option maxRecDepth 20000 in
theorem tm_82 : (Cond.code y_T_init b_T_init 2 none) ∈ GW := gw_in 82 (by first | rfl | decide +kernel) rfl
set_option maxRecDepth 20000 in
theorem tm_83 : (Cond.methodLink R_Table 3 objectInit) ∈ GW := gw_in 83 (by first | rfl | decide +kernel) rfl
set_option maxRecDepth 20000 in
theorem tm_84 : (Cond.fieldLink R_Table 9 "CellBench$MultipleTable" "reducer" "LCellBench$Reducer;") ∈ GW := gw_in 84 (by first | rfl | decide +kernel) rfl
set_option maxRecDepth 20000 in
theorem tm_85 : (Cond.fieldLink R_Table 15 "CellBench$MultipleTable" "rows" "[J") ∈ GW := gw_in 85 (by first | rfl | decide +kernel) rfl
set_option maxRecDepth 20000 in
theorem tm_86 : (Cond.fieldLink R_Table 19 "CellBench$MultipleTable" "size" "I") ∈ GW := gw_in 86 (by first | rfl | decide +kernel) rfl
set_option maxRecDepth 20000 in
theorem tm_87 : (Cond.fieldLink R_Table 23 "CellBench$MultipleTable" "filledCell" "I") ∈ GW := gw_in 87 (by first | rfl | decide +kernel) rfl
set_option maxRecDepth 20000 in
theorem tm_88 : (Cond.fieldLink R_Table 26 "CellBench$MultipleTable" "filledN" "I") ∈ GW := gw_in 88 (by first | rfl | decide +kernel) rfl
set_option maxRecDepth 20000 in
theorem tm_89 : (Cond.laysFinal "CellBench$MultipleTable" "CellBench$MultipleTable" "reducer" "LCellBench$Reducer;") ∈ GW := gw_in 89 (by first | rfl | decide +kernel) rfl
set_option maxRecDepth 20000 in
theorem tm_91 : (Cond.laysFinal "CellBench$MultipleTable" "CellBench$MultipleTable" "rows" "[J") ∈ GW := gw_in 91 (by first | rfl | decide +kernel) rfl
set_option maxRecDepth 20000 in
theorem tm_93 : (Cond.lays "CellBench$MultipleTable" "CellBench$MultipleTable" "size" "I") ∈ GW := gw_in 93 (by first | rfl | decide +kernel) rfl
set_option maxRecDepth 20000 in
theorem tm_95 : (Cond.lays "CellBench$MultipleTable" "CellBench$MultipleTable" "filledCell" "I") ∈ GW := gw_in 95 (by first | rfl | decide +kernel) rfl
set_option maxRecDepth 20000 in
theorem tm_97 : (Cond.lays "CellBench$MultipleTable" "CellBench$MultipleTable" "filledN" "I") ∈ GW := gw_in 97 (by first | rfl | decide +kernel) rfl
set_option maxRecDepth 20000 in
theorem tm_100 : (Cond.arrayClass .long) ∈ GW := gw_in 100 (by first | rfl | decide +kernel) rfl
set_option maxRecDepth 20000 in
theorem tm_101 : (Cond.fieldLink R_Bench 11 "CellBench" "cells" "[LCellBench$Cell;") ∈ GW := gw_in 101 (by first | rfl | decide +kernel) rfl
set_option maxRecDepth 20000 in
theorem tm_102 : (Cond.fieldLink R_Bench 18 "CellBench" "reducer" "LCellBench$Reducer;") ∈ GW := gw_in 102 (by first | rfl | decide +kernel) rfl
set_option maxRecDepth 20000 in
theorem tm_103 : (Cond.fieldLink R_Bench 27 "CellBench" "table" "LCellBench$MultipleTable;") ∈ GW := gw_in 103 (by first | rfl | decide +kernel) rfl
set_option maxRecDepth 20000 in
theorem tm_104 : (Cond.fieldLink R_Bench 31 "CellBench" "otherTable" "LCellBench$MultipleTable;") ∈ GW := gw_in 104 (by first | rfl | decide +kernel) rfl
set_option maxRecDepth 20000 in
theorem tm_105 : (Cond.fieldLink R_Bench 34 "CellBench" "count" "I") ∈ GW := gw_in 105 (by first | rfl | decide +kernel) rfl
set_option maxRecDepth 20000 in
theorem tm_106 : (Cond.laysFinal "CellBench" "CellBench" "cells" "[LCellBench$Cell;") ∈ GW := gw_in 106 (by first | rfl | decide +kernel) rfl
set_option maxRecDepth 20000 in
theorem tm_108 : (Cond.laysFinal "CellBench" "CellBench" "reducer" "LCellBench$Reducer;") ∈ GW := gw_in 108 (by first | rfl | decide +kernel) rfl
set_option maxRecDepth 20000 in
theorem tm_110 : (Cond.laysFinal "CellBench" "CellBench" "table" "LCellBench$MultipleTable;") ∈ GW := gw_in 110 (by first | rfl | decide +kernel) rfl
set_option maxRecDepth 20000 in
theorem tm_112 : (Cond.laysFinal "CellBench" "CellBench" "otherTable" "LCellBench$MultipleTable;") ∈ GW := gw_in 112 (by first | rfl | decide +kernel) rfl
set_option maxRecDepth 20000 in
theorem tm_114 : (Cond.lays "CellBench" "CellBench" "count" "I") ∈ GW := gw_in 114 (by first | rfl | decide +kernel) rfl
set_option maxRecDepth 20000 in
theorem tm_120 : (Cond.code y_B_cell b_B_cell 9 (some .int)) ∈ GW := gw_in 120 (by first | rfl | decide +kernel) rfl
set_option maxRecDepth 20000 in
theorem tm_121 : (Cond.methodLink R_Bench 38 y_isSquare) ∈ GW := gw_in 121 (by first | rfl | decide +kernel) rfl
set_option maxRecDepth 20000 in
theorem tm_122 : (Cond.static y_isSquare) ∈ GW := gw_in 122 (by first | rfl | decide +kernel) rfl
set_option maxRecDepth 20000 in
theorem tm_123 : (Cond.code y_isSquare b_isSquare 1 (some .boolean)) ∈ GW := gw_in 123 (by first | rfl | decide +kernel) rfl
set_option maxRecDepth 20000 in
theorem tm_124 : (Cond.methodLink R_Bench 42 y_isMixed) ∈ GW := gw_in 124 (by first | rfl | decide +kernel) rfl
set_option maxRecDepth 20000 in
theorem tm_125 : (Cond.static y_isMixed) ∈ GW := gw_in 125 (by first | rfl | decide +kernel) rfl
set_option maxRecDepth 20000 in
theorem tm_126 : (Cond.code y_isMixed b_isMixed 1 (some .boolean)) ∈ GW := gw_in 126 (by first | rfl | decide +kernel) rfl
set_option maxRecDepth 20000 in
theorem tm_127 : (Cond.classLink R_Bench 45 R_Products) ∈ GW := gw_in 127 (by first | rfl | decide +kernel) rfl
set_option maxRecDepth 20000 in
theorem tm_128 : (Cond.instantiable R_Products 6) ∈ GW := gw_in 128 (by first | rfl | decide +kernel) rfl
set_option maxRecDepth 20000 in
theorem tm_129 : (Cond.methodLink R_Bench 47 y_P_init) ∈ GW := gw_in 129 (by first | rfl | decide +kernel) rfl
set_option maxRecDepth 20000 in
theorem tm_130 : (Cond.instanceMethod y_P_init) ∈ GW := gw_in 130 (by first | rfl | decide +kernel) rfl
set_option maxRecDepth 20000 in
theorem tm_131 : (Cond.code y_P_init b_P_init 13 none) ∈ GW := gw_in 131 (by first | rfl | decide +kernel) rfl
set_option maxRecDepth 20000 in
theorem tm_132 : (Cond.methodLink R_Products 3 objectInit) ∈ GW := gw_in 132 (by first | rfl | decide +kernel) rfl
set_option maxRecDepth 20000 in
theorem tm_133 : (Cond.fieldLink R_Products 9 "CellBench$Products" "a" "J") ∈ GW := gw_in 133 (by first | rfl | decide +kernel) rfl
set_option maxRecDepth 20000 in
theorem tm_135 : (Cond.fieldLink R_Products 15 "CellBench$Products" "b" "J") ∈ GW := gw_in 135 (by first | rfl | decide +kernel) rfl
set_option maxRecDepth 20000 in
theorem tm_137 : (Cond.fieldLink R_Products 18 "CellBench$Products" "c" "J") ∈ GW := gw_in 137 (by first | rfl | decide +kernel) rfl
set_option maxRecDepth 20000 in
theorem tm_139 : (Cond.fieldLink R_Products 21 "CellBench$Products" "d" "J") ∈ GW := gw_in 139 (by first | rfl | decide +kernel) rfl
set_option maxRecDepth 20000 in
theorem tm_141 : (Cond.fieldLink R_Products 24 "CellBench$Products" "e" "J") ∈ GW := gw_in 141 (by first | rfl | decide +kernel) rfl
set_option maxRecDepth 20000 in
theorem tm_143 : (Cond.fieldLink R_Products 27 "CellBench$Products" "f" "J") ∈ GW := gw_in 143 (by first | rfl | decide +kernel) rfl
set_option maxRecDepth 20000 in
theorem tm_145 : (Cond.laysFinal "CellBench$Products" "CellBench$Products" "a" "J") ∈ GW := gw_in 145 (by first | rfl | decide +kernel) rfl
set_option maxRecDepth 20000 in
theorem tm_147 : (Cond.laysFinal "CellBench$Products" "CellBench$Products" "b" "J") ∈ GW := gw_in 147 (by first | rfl | decide +kernel) rfl
set_option maxRecDepth 20000 in
theorem tm_149 : (Cond.laysFinal "CellBench$Products" "CellBench$Products" "c" "J") ∈ GW := gw_in 149 (by first | rfl | decide +kernel) rfl
set_option maxRecDepth 20000 in
theorem tm_151 : (Cond.laysFinal "CellBench$Products" "CellBench$Products" "d" "J") ∈ GW := gw_in 151 (by first | rfl | decide +kernel) rfl
set_option maxRecDepth 20000 in
theorem tm_153 : (Cond.laysFinal "CellBench$Products" "CellBench$Products" "e" "J") ∈ GW := gw_in 153 (by first | rfl | decide +kernel) rfl
set_option maxRecDepth 20000 in
theorem tm_155 : (Cond.laysFinal "CellBench$Products" "CellBench$Products" "f" "J") ∈ GW := gw_in 155 (by first | rfl | decide +kernel) rfl
set_option maxRecDepth 20000 in
theorem tm_158 : (Cond.methodLink R_Bench 50 y_P_span) ∈ GW := gw_in 158 (by first | rfl | decide +kernel) rfl
set_option maxRecDepth 20000 in
theorem tm_159 : (Cond.instanceMethod y_P_span) ∈ GW := gw_in 159 (by first | rfl | decide +kernel) rfl
set_option maxRecDepth 20000 in
theorem tm_160 : (Cond.selects R_Products y_P_span y_P_span) ∈ GW := gw_in 160 (by first | rfl | decide +kernel) rfl
set_option maxRecDepth 20000 in
theorem tm_161 : (Cond.code y_P_span b_P_span 1 (some .boolean)) ∈ GW := gw_in 161 (by first | rfl | decide +kernel) rfl
set_option maxRecDepth 20000 in
theorem tm_162 : (Cond.methodLink R_Products 30 y_P_det) ∈ GW := gw_in 162 (by first | rfl | decide +kernel) rfl
set_option maxRecDepth 20000 in
theorem tm_163 : (Cond.instanceMethod y_P_det) ∈ GW := gw_in 163 (by first | rfl | decide +kernel) rfl
set_option maxRecDepth 20000 in
theorem tm_164 : (Cond.selects R_Products y_P_det y_P_det) ∈ GW := gw_in 164 (by first | rfl | decide +kernel) rfl
set_option maxRecDepth 20000 in
theorem tm_165 : (Cond.code y_P_det b_P_det 1 (some .long)) ∈ GW := gw_in 165 (by first | rfl | decide +kernel) rfl
set_option maxRecDepth 20000 in
theorem tm_166 : (Cond.methodLink R_Bench 54 y_R_reduce) ∈ GW := gw_in 166 (by first | rfl | decide +kernel) rfl
set_option maxRecDepth 20000 in
theorem tm_167 : (Cond.instanceMethod y_R_reduce) ∈ GW := gw_in 167 (by first | rfl | decide +kernel) rfl
set_option maxRecDepth 20000 in
theorem tm_168 : (Cond.selects R_Reducer y_R_reduce y_R_reduce) ∈ GW := gw_in 168 (by first | rfl | decide +kernel) rfl
set_option maxRecDepth 20000 in
theorem tm_169 : (Cond.code y_R_reduce b_R_reduce 2 none) ∈ GW := gw_in 169 (by first | rfl | decide +kernel) rfl
set_option maxRecDepth 20000 in
theorem tm_170 : (Cond.methodLink R_Reducer 25 y_R_setSq) ∈ GW := gw_in 170 (by first | rfl | decide +kernel) rfl
set_option maxRecDepth 20000 in
theorem tm_171 : (Cond.instanceMethod y_R_setSq) ∈ GW := gw_in 171 (by first | rfl | decide +kernel) rfl
set_option maxRecDepth 20000 in
theorem tm_172 : (Cond.selects R_Reducer y_R_setSq y_R_setSq) ∈ GW := gw_in 172 (by first | rfl | decide +kernel) rfl
set_option maxRecDepth 20000 in
theorem tm_173 : (Cond.code y_R_setSq b_R_setSq 7 none) ∈ GW := gw_in 173 (by first | rfl | decide +kernel) rfl
set_option maxRecDepth 20000 in
theorem tm_174 : (Cond.methodLink R_Reducer 38 y_R_setMx) ∈ GW := gw_in 174 (by first | rfl | decide +kernel) rfl
set_option maxRecDepth 20000 in
theorem tm_175 : (Cond.instanceMethod y_R_setMx) ∈ GW := gw_in 175 (by first | rfl | decide +kernel) rfl
set_option maxRecDepth 20000 in
theorem tm_176 : (Cond.selects R_Reducer y_R_setMx y_R_setMx) ∈ GW := gw_in 176 (by first | rfl | decide +kernel) rfl
set_option maxRecDepth 20000 in
theorem tm_177 : (Cond.code y_R_setMx b_R_setMx 7 none) ∈ GW := gw_in 177 (by first | rfl | decide +kernel) rfl
set_option maxRecDepth 20000 in
theorem tm_178 : (Cond.constantLong R_Reducer 47 2) ∈ GW := gw_in 178 (by first | rfl | decide +kernel) rfl
set_option maxRecDepth 20000 in
theorem tm_179 : (Cond.methodLink R_Reducer 41 y_R_run) ∈ GW := gw_in 179 (by first | rfl | decide +kernel) rfl
set_option maxRecDepth 20000 in
theorem tm_180 : (Cond.instanceMethod y_R_run) ∈ GW := gw_in 180 (by first | rfl | decide +kernel) rfl
set_option maxRecDepth 20000 in
theorem tm_181 : (Cond.selects R_Reducer y_R_run y_R_run) ∈ GW := gw_in 181 (by first | rfl | decide +kernel) rfl
set_option maxRecDepth 20000 in
theorem tm_182 : (Cond.code y_R_run b_R_run 2 none) ∈ GW := gw_in 182 (by first | rfl | decide +kernel) rfl
set_option maxRecDepth 20000 in
theorem tm_183 : (Cond.constant R_Reducer 58 1000000) ∈ GW := gw_in 183 (by first | rfl | decide +kernel) rfl
set_option maxRecDepth 20000 in
theorem tm_184 : (Cond.methodLink R_Reducer 59 y_R_ord1) ∈ GW := gw_in 184 (by first | rfl | decide +kernel) rfl
set_option maxRecDepth 20000 in
theorem tm_186 : (Cond.instanceMethod y_R_ord1) ∈ GW := gw_in 186 (by first | rfl | decide +kernel) rfl
set_option maxRecDepth 20000 in
theorem tm_187 : (Cond.code y_R_ord1 b_R_ord1 5 none) ∈ GW := gw_in 187 (by first | rfl | decide +kernel) rfl
set_option maxRecDepth 20000 in
theorem tm_188 : (Cond.methodLink R_Reducer 84 Lib.MathLoose.abs_long.x) ∈ GW := gw_in 188 (by first | rfl | decide +kernel) rfl
set_option maxRecDepth 20000 in
theorem tm_189 : (Cond.static Lib.MathLoose.abs_long.x) ∈ GW := gw_in 189 (by first | rfl | decide +kernel) rfl
set_option maxRecDepth 20000 in
theorem tm_190 : (Cond.code Lib.MathLoose.abs_long.x Lib.MathLoose.abs_long.code 2 (some .long)) ∈ GW := gw_in 190 (by first | rfl | decide +kernel) rfl
set_option maxRecDepth 20000 in
theorem tm_191 : (Cond.methodLink R_Reducer 62 y_R_ord2) ∈ GW := gw_in 191 (by first | rfl | decide +kernel) rfl
set_option maxRecDepth 20000 in
theorem tm_193 : (Cond.instanceMethod y_R_ord2) ∈ GW := gw_in 193 (by first | rfl | decide +kernel) rfl
set_option maxRecDepth 20000 in
theorem tm_194 : (Cond.code y_R_ord2 b_R_ord2 5 (some .boolean)) ∈ GW := gw_in 194 (by first | rfl | decide +kernel) rfl
set_option maxRecDepth 20000 in
theorem tm_195 : (Cond.methodLink R_Reducer 66 y_R_align) ∈ GW := gw_in 195 (by first | rfl | decide +kernel) rfl
set_option maxRecDepth 20000 in
theorem tm_197 : (Cond.instanceMethod y_R_align) ∈ GW := gw_in 197 (by first | rfl | decide +kernel) rfl
set_option maxRecDepth 20000 in
theorem tm_198 : (Cond.code y_R_align b_R_align 3 none) ∈ GW := gw_in 198 (by first | rfl | decide +kernel) rfl
set_option maxRecDepth 20000 in
theorem tm_199 : (Cond.methodLink R_Reducer 90 y_Long_cmp) ∈ GW := gw_in 199 (by first | rfl | decide +kernel) rfl
set_option maxRecDepth 20000 in
theorem tm_200 : (Cond.static y_Long_cmp) ∈ GW := gw_in 200 (by first | rfl | decide +kernel) rfl
set_option maxRecDepth 20000 in
theorem tm_201 : (Cond.code y_Long_cmp b_Long_cmp 4 (some .int)) ∈ GW := gw_in 201 (by first | rfl | decide +kernel) rfl
set_option maxRecDepth 20000 in
theorem tm_202 : (Cond.methodLink R_Reducer 69 y_R_shX) ∈ GW := gw_in 202 (by first | rfl | decide +kernel) rfl
set_option maxRecDepth 20000 in
theorem tm_204 : (Cond.instanceMethod y_R_shX) ∈ GW := gw_in 204 (by first | rfl | decide +kernel) rfl
set_option maxRecDepth 20000 in
theorem tm_205 : (Cond.code y_R_shX b_R_shX 2 (some .boolean)) ∈ GW := gw_in 205 (by first | rfl | decide +kernel) rfl
set_option maxRecDepth 20000 in
theorem tm_206 : (Cond.methodLink R_Reducer 72 y_R_shY) ∈ GW := gw_in 206 (by first | rfl | decide +kernel) rfl
set_option maxRecDepth 20000 in
theorem tm_208 : (Cond.instanceMethod y_R_shY) ∈ GW := gw_in 208 (by first | rfl | decide +kernel) rfl
set_option maxRecDepth 20000 in
theorem tm_209 : (Cond.code y_R_shY b_R_shY 2 (some .boolean)) ∈ GW := gw_in 209 (by first | rfl | decide +kernel) rfl
set_option maxRecDepth 20000 in
theorem tm_210 : (Cond.methodLink R_Reducer 75 y_R_shZ) ∈ GW := gw_in 210 (by first | rfl | decide +kernel) rfl
set_option maxRecDepth 20000 in
theorem tm_212 : (Cond.instanceMethod y_R_shZ) ∈ GW := gw_in 212 (by first | rfl | decide +kernel) rfl
set_option maxRecDepth 20000 in
theorem tm_213 : (Cond.code y_R_shZ b_R_shZ 2 (some .boolean)) ∈ GW := gw_in 213 (by first | rfl | decide +kernel) rfl
set_option maxRecDepth 20000 in
theorem tm_214 : (Cond.methodLink R_Reducer 78 y_R_shS) ∈ GW := gw_in 214 (by first | rfl | decide +kernel) rfl
set_option maxRecDepth 20000 in
theorem tm_216 : (Cond.instanceMethod y_R_shS) ∈ GW := gw_in 216 (by first | rfl | decide +kernel) rfl
set_option maxRecDepth 20000 in
theorem tm_217 : (Cond.code y_R_shS b_R_shS 3 (some .boolean)) ∈ GW := gw_in 217 (by first | rfl | decide +kernel) rfl
set_option maxRecDepth 20000 in
theorem tm_218 : (Cond.methodLink R_Bench 58 y_R_result) ∈ GW := gw_in 218 (by first | rfl | decide +kernel) rfl
set_option maxRecDepth 20000 in
theorem tm_219 : (Cond.instanceMethod y_R_result) ∈ GW := gw_in 219 (by first | rfl | decide +kernel) rfl
set_option maxRecDepth 20000 in
theorem tm_220 : (Cond.selects R_Reducer y_R_result y_R_result) ∈ GW := gw_in 220 (by first | rfl | decide +kernel) rfl
set_option maxRecDepth 20000 in
theorem tm_221 : (Cond.code y_R_result b_R_result 1 (some (.object "CellBench$Products"))) ∈ GW := gw_in 221 (by first | rfl | decide +kernel) rfl
set_option maxRecDepth 20000 in
theorem tm_222 : (Cond.classLink R_Reducer 14 R_Products) ∈ GW := gw_in 222 (by first | rfl | decide +kernel) rfl
set_option maxRecDepth 20000 in
theorem tm_223 : (Cond.methodLink R_Reducer 81 y_P_init) ∈ GW := gw_in 223 (by first | rfl | decide +kernel) rfl
set_option maxRecDepth 20000 in
theorem tm_224 : (Cond.instantiable R_Cell 4) ∈ GW := gw_in 224 (by first | rfl | decide +kernel) rfl
set_option maxRecDepth 20000 in
theorem tm_225 : (Cond.methodLink R_Bench 62 y_P_keepers) ∈ GW := gw_in 225 (by first | rfl | decide +kernel) rfl
set_option maxRecDepth 20000 in
theorem tm_226 : (Cond.instanceMethod y_P_keepers) ∈ GW := gw_in 226 (by first | rfl | decide +kernel) rfl
set_option maxRecDepth 20000 in
theorem tm_227 : (Cond.selects R_Products y_P_keepers y_P_keepers) ∈ GW := gw_in 227 (by first | rfl | decide +kernel) rfl
set_option maxRecDepth 20000 in
theorem tm_228 : (Cond.code y_P_keepers b_P_keepers 4 (some .int)) ∈ GW := gw_in 228 (by first | rfl | decide +kernel) rfl
set_option maxRecDepth 20000 in
theorem tm_229 : (Cond.methodLink R_Products 38 y_P_colp) ∈ GW := gw_in 229 (by first | rfl | decide +kernel) rfl
set_option maxRecDepth 20000 in
theorem tm_231 : (Cond.instanceMethod y_P_colp) ∈ GW := gw_in 231 (by first | rfl | decide +kernel) rfl
set_option maxRecDepth 20000 in
theorem tm_232 : (Cond.code y_P_colp b_P_colp 3 (some .long)) ∈ GW := gw_in 232 (by first | rfl | decide +kernel) rfl
set_option maxRecDepth 20000 in
theorem tm_233 : (Cond.methodLink R_Products 34 y_P_prod) ∈ GW := gw_in 233 (by first | rfl | decide +kernel) rfl
set_option maxRecDepth 20000 in
theorem tm_234 : (Cond.instanceMethod y_P_prod) ∈ GW := gw_in 234 (by first | rfl | decide +kernel) rfl
set_option maxRecDepth 20000 in
theorem tm_235 : (Cond.selects R_Products y_P_prod y_P_prod) ∈ GW := gw_in 235 (by first | rfl | decide +kernel) rfl
set_option maxRecDepth 20000 in
theorem tm_236 : (Cond.code y_P_prod b_P_prod 13 (some .long)) ∈ GW := gw_in 236 (by first | rfl | decide +kernel) rfl
set_option maxRecDepth 20000 in
theorem tm_237 : (Cond.methodLink R_Products 42 y_P_fit2) ∈ GW := gw_in 237 (by first | rfl | decide +kernel) rfl
set_option maxRecDepth 20000 in
theorem tm_239 : (Cond.instanceMethod y_P_fit2) ∈ GW := gw_in 239 (by first | rfl | decide +kernel) rfl
set_option maxRecDepth 20000 in
theorem tm_240 : (Cond.code y_P_fit2 b_P_fit2 3 (some .boolean)) ∈ GW := gw_in 240 (by first | rfl | decide +kernel) rfl
set_option maxRecDepth 20000 in
theorem tm_241 : (Cond.methodLink R_Products 50 y_P_thirds) ∈ GW := gw_in 241 (by first | rfl | decide +kernel) rfl
set_option maxRecDepth 20000 in
theorem tm_243 : (Cond.instanceMethod y_P_thirds) ∈ GW := gw_in 243 (by first | rfl | decide +kernel) rfl
set_option maxRecDepth 20000 in
theorem tm_244 : (Cond.code y_P_thirds b_P_thirds 5 (some .int)) ∈ GW := gw_in 244 (by first | rfl | decide +kernel) rfl
set_option maxRecDepth 20000 in
theorem tm_245 : (Cond.methodLink R_Products 46 y_P_fit3) ∈ GW := gw_in 245 (by first | rfl | decide +kernel) rfl
set_option maxRecDepth 20000 in
theorem tm_247 : (Cond.instanceMethod y_P_fit3) ∈ GW := gw_in 247 (by first | rfl | decide +kernel) rfl
set_option maxRecDepth 20000 in
theorem tm_248 : (Cond.code y_P_fit3 b_P_fit3 4 (some .boolean)) ∈ GW := gw_in 248 (by first | rfl | decide +kernel) rfl
set_option maxRecDepth 20000 in
theorem tm_249 : (Cond.methodLink R_Bench 66 y_R_shears) ∈ GW := gw_in 249 (by first | rfl | decide +kernel) rfl
set_option maxRecDepth 20000 in
theorem tm_250 : (Cond.instanceMethod y_R_shears) ∈ GW := gw_in 250 (by first | rfl | decide +kernel) rfl
set_option maxRecDepth 20000 in
theorem tm_251 : (Cond.selects R_Reducer y_R_shears y_R_shears) ∈ GW := gw_in 251 (by first | rfl | decide +kernel) rfl
set_option maxRecDepth 20000 in
theorem tm_252 : (Cond.code y_R_shears b_R_shears 1 (some .int)) ∈ GW := gw_in 252 (by first | rfl | decide +kernel) rfl
set_option maxRecDepth 20000 in
theorem tm_253 : (Cond.methodLink R_Bench 69 y_C_init) ∈ GW := gw_in 253 (by first | rfl | decide +kernel) rfl
set_option maxRecDepth 20000 in
theorem tm_254 : (Cond.instanceMethod y_C_init) ∈ GW := gw_in 254 (by first | rfl | decide +kernel) rfl
set_option maxRecDepth 20000 in
theorem tm_255 : (Cond.code y_C_init b_C_init 5 none) ∈ GW := gw_in 255 (by first | rfl | decide +kernel) rfl
set_option maxRecDepth 20000 in
theorem tm_256 : (Cond.methodLink R_Cell 1 objectInit) ∈ GW := gw_in 256 (by first | rfl | decide +kernel) rfl
set_option maxRecDepth 20000 in
theorem tm_257 : (Cond.fieldLink R_Cell 7 "CellBench$Cell" "told" "LCellBench$Products;") ∈ GW := gw_in 257 (by first | rfl | decide +kernel) rfl
set_option maxRecDepth 20000 in
theorem tm_258 : (Cond.fieldLink R_Bench 93 "CellBench$Cell" "told" "LCellBench$Products;") ∈ GW := gw_in 258 (by first | rfl | decide +kernel) rfl
set_option maxRecDepth 20000 in
theorem tm_259 : (Cond.fieldLink R_Cell 13 "CellBench$Cell" "low" "LCellBench$Products;") ∈ GW := gw_in 259 (by first | rfl | decide +kernel) rfl
set_option maxRecDepth 20000 in
theorem tm_260 : (Cond.fieldLink R_Bench 79 "CellBench$Cell" "low" "LCellBench$Products;") ∈ GW := gw_in 260 (by first | rfl | decide +kernel) rfl
set_option maxRecDepth 20000 in
theorem tm_261 : (Cond.fieldLink R_Cell 16 "CellBench$Cell" "symmetry" "I") ∈ GW := gw_in 261 (by first | rfl | decide +kernel) rfl
set_option maxRecDepth 20000 in
theorem tm_262 : (Cond.fieldLink R_Bench 76 "CellBench$Cell" "symmetry" "I") ∈ GW := gw_in 262 (by first | rfl | decide +kernel) rfl
set_option maxRecDepth 20000 in
theorem tm_263 : (Cond.fieldLink R_Cell 20 "CellBench$Cell" "shears" "I") ∈ GW := gw_in 263 (by first | rfl | decide +kernel) rfl
set_option maxRecDepth 20000 in
theorem tm_264 : (Cond.fieldLink R_Bench 87 "CellBench$Cell" "shears" "I") ∈ GW := gw_in 264 (by first | rfl | decide +kernel) rfl
set_option maxRecDepth 20000 in
theorem tm_265 : (Cond.laysFinal "CellBench$Cell" "CellBench$Cell" "told" "LCellBench$Products;") ∈ GW := gw_in 265 (by first | rfl | decide +kernel) rfl
set_option maxRecDepth 20000 in
theorem tm_267 : (Cond.laysFinal "CellBench$Cell" "CellBench$Cell" "low" "LCellBench$Products;") ∈ GW := gw_in 267 (by first | rfl | decide +kernel) rfl
set_option maxRecDepth 20000 in
theorem tm_269 : (Cond.laysFinal "CellBench$Cell" "CellBench$Cell" "symmetry" "I") ∈ GW := gw_in 269 (by first | rfl | decide +kernel) rfl
set_option maxRecDepth 20000 in
theorem tm_271 : (Cond.laysFinal "CellBench$Cell" "CellBench$Cell" "shears" "I") ∈ GW := gw_in 271 (by first | rfl | decide +kernel) rfl
set_option maxRecDepth 20000 in
theorem tm_277 : (Cond.code y_B_reduced b_B_reduced 4 (some .long)) ∈ GW := gw_in 277 (by first | rfl | decide +kernel) rfl
set_option maxRecDepth 20000 in
theorem tm_278 : (Cond.methodLink R_Bench 72 y_B_find) ∈ GW := gw_in 278 (by first | rfl | decide +kernel) rfl
set_option maxRecDepth 20000 in
theorem tm_280 : (Cond.instanceMethod y_B_find) ∈ GW := gw_in 280 (by first | rfl | decide +kernel) rfl
set_option maxRecDepth 20000 in
theorem tm_281 : (Cond.code y_B_find b_B_find 2 (some (.object "CellBench$Cell"))) ∈ GW := gw_in 281 (by first | rfl | decide +kernel) rfl
set_option maxRecDepth 20000 in
theorem tm_282 : (Cond.methodLink R_Bench 83 y_P_det) ∈ GW := gw_in 282 (by first | rfl | decide +kernel) rfl
set_option maxRecDepth 20000 in
theorem tm_283 : (Cond.methodLink R_Bench 89 y_P_at) ∈ GW := gw_in 283 (by first | rfl | decide +kernel) rfl
set_option maxRecDepth 20000 in
theorem tm_284 : (Cond.instanceMethod y_P_at) ∈ GW := gw_in 284 (by first | rfl | decide +kernel) rfl
set_option maxRecDepth 20000 in
theorem tm_285 : (Cond.selects R_Products y_P_at y_P_at) ∈ GW := gw_in 285 (by first | rfl | decide +kernel) rfl
set_option maxRecDepth 20000 in
theorem tm_286 : (Cond.code y_P_at b_P_at 2 (some .long)) ∈ GW := gw_in 286 (by first | rfl | decide +kernel) rfl
set_option maxRecDepth 20000 in
theorem tm_290 : (Cond.code y_B_keeps b_B_keeps 4 (some .boolean)) ∈ GW := gw_in 290 (by first | rfl | decide +kernel) rfl
set_option maxRecDepth 20000 in
theorem tm_291 : (Cond.methodLink R_Bench 96 y_columnAtEnd) ∈ GW := gw_in 291 (by first | rfl | decide +kernel) rfl
set_option maxRecDepth 20000 in
theorem tm_292 : (Cond.static y_columnAtEnd) ∈ GW := gw_in 292 (by first | rfl | decide +kernel) rfl
set_option maxRecDepth 20000 in
theorem tm_293 : (Cond.code y_columnAtEnd b_columnAtEnd 1 (some .int)) ∈ GW := gw_in 293 (by first | rfl | decide +kernel) rfl
set_option maxRecDepth 20000 in
theorem tm_294 : (Cond.methodLink R_Bench 100 y_P_kept) ∈ GW := gw_in 294 (by first | rfl | decide +kernel) rfl
set_option maxRecDepth 20000 in
theorem tm_295 : (Cond.instanceMethod y_P_kept) ∈ GW := gw_in 295 (by first | rfl | decide +kernel) rfl
set_option maxRecDepth 20000 in
theorem tm_296 : (Cond.selects R_Products y_P_kept y_P_kept) ∈ GW := gw_in 296 (by first | rfl | decide +kernel) rfl
set_option maxRecDepth 20000 in
theorem tm_297 : (Cond.code y_P_kept b_P_kept 4 (some .boolean)) ∈ GW := gw_in 297 (by first | rfl | decide +kernel) rfl
set_option maxRecDepth 20000 in
theorem tm_301 : (Cond.code y_B_same b_B_same 5 (some .int)) ∈ GW := gw_in 301 (by first | rfl | decide +kernel) rfl
set_option maxRecDepth 20000 in
theorem tm_302 : (Cond.methodLink R_Bench 104 y_P_order) ∈ GW := gw_in 302 (by first | rfl | decide +kernel) rfl
set_option maxRecDepth 20000 in
theorem tm_303 : (Cond.instanceMethod y_P_order) ∈ GW := gw_in 303 (by first | rfl | decide +kernel) rfl
set_option maxRecDepth 20000 in
theorem tm_304 : (Cond.selects R_Products y_P_order y_P_order) ∈ GW := gw_in 304 (by first | rfl | decide +kernel) rfl
set_option maxRecDepth 20000 in
theorem tm_305 : (Cond.code y_P_order b_P_order 4 (some .int)) ∈ GW := gw_in 305 (by first | rfl | decide +kernel) rfl
set_option maxRecDepth 20000 in
theorem tm_306 : (Cond.methodLink R_Products 54 y_P_at) ∈ GW := gw_in 306 (by first | rfl | decide +kernel) rfl
set_option maxRecDepth 20000 in
theorem tm_307 : (Cond.methodLink R_Products 58 y_Long_cmp) ∈ GW := gw_in 307 (by first | rfl | decide +kernel) rfl
set_option maxRecDepth 20000 in
theorem tm_311 : (Cond.code y_B_multiples b_B_multiples 4 (some .int)) ∈ GW := gw_in 311 (by first | rfl | decide +kernel) rfl
set_option maxRecDepth 20000 in
theorem tm_312 : (Cond.methodLink R_Bench 108 y_isMultiplier) ∈ GW := gw_in 312 (by first | rfl | decide +kernel) rfl
set_option maxRecDepth 20000 in
theorem tm_313 : (Cond.static y_isMultiplier) ∈ GW := gw_in 313 (by first | rfl | decide +kernel) rfl
set_option maxRecDepth 20000 in
theorem tm_314 : (Cond.code y_isMultiplier b_isMultiplier 1 (some .boolean)) ∈ GW := gw_in 314 (by first | rfl | decide +kernel) rfl
set_option maxRecDepth 20000 in
theorem tm_315 : (Cond.methodLink R_Bench 111 y_T_fill) ∈ GW := gw_in 315 (by first | rfl | decide +kernel) rfl
set_option maxRecDepth 20000 in
theorem tm_316 : (Cond.instanceMethod y_T_fill) ∈ GW := gw_in 316 (by first | rfl | decide +kernel) rfl
set_option maxRecDepth 20000 in
theorem tm_317 : (Cond.selects R_Table y_T_fill y_T_fill) ∈ GW := gw_in 317 (by first | rfl | decide +kernel) rfl
set_option maxRecDepth 20000 in
theorem tm_318 : (Cond.code y_T_fill b_T_fill 6 none) ∈ GW := gw_in 318 (by first | rfl | decide +kernel) rfl
set_option maxRecDepth 20000 in
theorem tm_319 : (Cond.methodLink R_Table 29 y_T_addAll) ∈ GW := gw_in 319 (by first | rfl | decide +kernel) rfl
set_option maxRecDepth 20000 in
theorem tm_321 : (Cond.instanceMethod y_T_addAll) ∈ GW := gw_in 321 (by first | rfl | decide +kernel) rfl
set_option maxRecDepth 20000 in
theorem tm_322 : (Cond.code y_T_addAll b_T_addAll 8 none) ∈ GW := gw_in 322 (by first | rfl | decide +kernel) rfl
set_option maxRecDepth 20000 in
theorem tm_323 : (Cond.methodLink R_Table 33 y_T_edges) ∈ GW := gw_in 323 (by first | rfl | decide +kernel) rfl
set_option maxRecDepth 20000 in
theorem tm_325 : (Cond.instanceMethod y_T_edges) ∈ GW := gw_in 325 (by first | rfl | decide +kernel) rfl
set_option maxRecDepth 20000 in
theorem tm_326 : (Cond.code y_T_edges b_T_edges 8 none) ∈ GW := gw_in 326 (by first | rfl | decide +kernel) rfl
set_option maxRecDepth 20000 in
theorem tm_327 : (Cond.methodLink R_Table 40 y_P_prod) ∈ GW := gw_in 327 (by first | rfl | decide +kernel) rfl
set_option maxRecDepth 20000 in
theorem tm_328 : (Cond.methodLink R_Table 46 y_R_setSq) ∈ GW := gw_in 328 (by first | rfl | decide +kernel) rfl
set_option maxRecDepth 20000 in
theorem tm_329 : (Cond.methodLink R_Table 52 y_R_setMx) ∈ GW := gw_in 329 (by first | rfl | decide +kernel) rfl
set_option maxRecDepth 20000 in
theorem tm_330 : (Cond.methodLink R_Table 55 y_R_run) ∈ GW := gw_in 330 (by first | rfl | decide +kernel) rfl
set_option maxRecDepth 20000 in
theorem tm_331 : (Cond.methodLink R_Table 37 y_T_count) ∈ GW := gw_in 331 (by first | rfl | decide +kernel) rfl
set_option maxRecDepth 20000 in
theorem tm_333 : (Cond.instanceMethod y_T_count) ∈ GW := gw_in 333 (by first | rfl | decide +kernel) rfl
set_option maxRecDepth 20000 in
theorem tm_334 : (Cond.code y_T_count b_T_count 2 none) ∈ GW := gw_in 334 (by first | rfl | decide +kernel) rfl
set_option maxRecDepth 20000 in
theorem tm_335 : (Cond.methodLink R_Table 58 y_T_first) ∈ GW := gw_in 335 (by first | rfl | decide +kernel) rfl
set_option maxRecDepth 20000 in
theorem tm_337 : (Cond.instanceMethod y_T_first) ∈ GW := gw_in 337 (by first | rfl | decide +kernel) rfl
set_option maxRecDepth 20000 in
theorem tm_338 : (Cond.code y_T_first b_T_first 4 (some .int)) ∈ GW := gw_in 338 (by first | rfl | decide +kernel) rfl
set_option maxRecDepth 20000 in
theorem tm_339 : (Cond.methodLink R_Table 62 y_T_ordR) ∈ GW := gw_in 339 (by first | rfl | decide +kernel) rfl
set_option maxRecDepth 20000 in
theorem tm_341 : (Cond.instanceMethod y_T_ordR) ∈ GW := gw_in 341 (by first | rfl | decide +kernel) rfl
set_option maxRecDepth 20000 in
theorem tm_342 : (Cond.code y_T_ordR b_T_ordR 4 (some .int)) ∈ GW := gw_in 342 (by first | rfl | decide +kernel) rfl
set_option maxRecDepth 20000 in
theorem tm_343 : (Cond.methodLink R_Table 70 y_T_at) ∈ GW := gw_in 343 (by first | rfl | decide +kernel) rfl
set_option maxRecDepth 20000 in
theorem tm_344 : (Cond.instanceMethod y_T_at) ∈ GW := gw_in 344 (by first | rfl | decide +kernel) rfl
set_option maxRecDepth 20000 in
theorem tm_345 : (Cond.selects R_Table y_T_at y_T_at) ∈ GW := gw_in 345 (by first | rfl | decide +kernel) rfl
set_option maxRecDepth 20000 in
theorem tm_346 : (Cond.code y_T_at b_T_at 3 (some .long)) ∈ GW := gw_in 346 (by first | rfl | decide +kernel) rfl
set_option maxRecDepth 20000 in
theorem tm_347 : (Cond.methodLink R_Table 74 y_R_at) ∈ GW := gw_in 347 (by first | rfl | decide +kernel) rfl
set_option maxRecDepth 20000 in
theorem tm_348 : (Cond.instanceMethod y_R_at) ∈ GW := gw_in 348 (by first | rfl | decide +kernel) rfl
set_option maxRecDepth 20000 in
theorem tm_349 : (Cond.selects R_Reducer y_R_at y_R_at) ∈ GW := gw_in 349 (by first | rfl | decide +kernel) rfl
set_option maxRecDepth 20000 in
theorem tm_350 : (Cond.code y_R_at b_R_at 2 (some .long)) ∈ GW := gw_in 350 (by first | rfl | decide +kernel) rfl
set_option maxRecDepth 20000 in
theorem tm_351 : (Cond.methodLink R_Table 77 y_Long_cmp) ∈ GW := gw_in 351 (by first | rfl | decide +kernel) rfl
set_option maxRecDepth 20000 in
theorem tm_352 : (Cond.methodLink R_Table 66 y_T_insert) ∈ GW := gw_in 352 (by first | rfl | decide +kernel) rfl
set_option maxRecDepth 20000 in
theorem tm_354 : (Cond.instanceMethod y_T_insert) ∈ GW := gw_in 354 (by first | rfl | decide +kernel) rfl
set_option maxRecDepth 20000 in
theorem tm_355 : (Cond.code y_T_insert b_T_insert 4 none) ∈ GW := gw_in 355 (by first | rfl | decide +kernel) rfl
set_option maxRecDepth 20000 in
theorem tm_356 : (Cond.methodLink R_Table 83 arraycopyName) ∈ GW := gw_in 356 (by first | rfl | decide +kernel) rfl
set_option maxRecDepth 20000 in
theorem tm_357 : (Cond.static arraycopyName) ∈ GW := gw_in 357 (by first | rfl | decide +kernel) rfl
set_option maxRecDepth 20000 in
theorem tm_358 : (Cond.native arraycopyName) ∈ GW := gw_in 358 (by first | rfl | decide +kernel) rfl
set_option maxRecDepth 20000 in
theorem tm_359 : (Cond.methodLink R_Bench 115 y_T_size) ∈ GW := gw_in 359 (by first | rfl | decide +kernel) rfl
set_option maxRecDepth 20000 in
theorem tm_360 : (Cond.instanceMethod y_T_size) ∈ GW := gw_in 360 (by first | rfl | decide +kernel) rfl
set_option maxRecDepth 20000 in
theorem tm_361 : (Cond.selects R_Table y_T_size y_T_size) ∈ GW := gw_in 361 (by first | rfl | decide +kernel) rfl
set_option maxRecDepth 20000 in
theorem tm_362 : (Cond.code y_T_size b_T_size 1 (some .int)) ∈ GW := gw_in 362 (by first | rfl | decide +kernel) rfl
set_option maxRecDepth 20000 in
theorem tm_366 : (Cond.code y_B_multiple b_B_multiple 6 (some .long)) ∈ GW := gw_in 366 (by first | rfl | decide +kernel) rfl
set_option maxRecDepth 20000 in
theorem tm_367 : (Cond.methodLink R_Bench 118 y_T_at) ∈ GW := gw_in 367 (by first | rfl | decide +kernel) rfl
set_option maxRecDepth 20000 in
theorem tm_371 : (Cond.code y_B_common b_B_common 7 (some .int)) ∈ GW := gw_in 371 (by first | rfl | decide +kernel) rfl
set_option maxRecDepth 20000 in
theorem tm_372 : (Cond.methodLink R_Bench 121 y_T_shared) ∈ GW := gw_in 372 (by first | rfl | decide +kernel) rfl
set_option maxRecDepth 20000 in
theorem tm_373 : (Cond.instanceMethod y_T_shared) ∈ GW := gw_in 373 (by first | rfl | decide +kernel) rfl
set_option maxRecDepth 20000 in
theorem tm_374 : (Cond.selects R_Table y_T_shared y_T_shared) ∈ GW := gw_in 374 (by first | rfl | decide +kernel) rfl
set_option maxRecDepth 20000 in
theorem tm_375 : (Cond.code y_T_shared b_T_shared 5 (some .int)) ∈ GW := gw_in 375 (by first | rfl | decide +kernel) rfl
set_option maxRecDepth 20000 in
theorem tm_376 : (Cond.methodLink R_Table 89 y_T_ordO) ∈ GW := gw_in 376 (by first | rfl | decide +kernel) rfl
set_option maxRecDepth 20000 in
theorem tm_378 : (Cond.instanceMethod y_T_ordO) ∈ GW := gw_in 378 (by first | rfl | decide +kernel) rfl
set_option maxRecDepth 20000 in
theorem tm_379 : (Cond.code y_T_ordO b_T_ordO 6 (some .int)) ∈ GW := gw_in 379 (by first | rfl | decide +kernel) rfl
set_option maxRecDepth 20000 in
theorem tm_383 : (Cond.code y_B_step b_B_step 6 (some .long)) ∈ GW := gw_in 383 (by first | rfl | decide +kernel) rfl
set_option maxRecDepth 20000 in
theorem tm_384 : (Cond.methodLink R_Bench 125 y_isRouteNumber) ∈ GW := gw_in 384 (by first | rfl | decide +kernel) rfl
set_option maxRecDepth 20000 in
theorem tm_385 : (Cond.static y_isRouteNumber) ∈ GW := gw_in 385 (by first | rfl | decide +kernel) rfl
set_option maxRecDepth 20000 in
theorem tm_386 : (Cond.code y_isRouteNumber b_isRouteNumber 1 (some .boolean)) ∈ GW := gw_in 386 (by first | rfl | decide +kernel) rfl
set_option maxRecDepth 20000 in
theorem tm_387 : (Cond.methodLink R_Bench 128 y_P_prod) ∈ GW := gw_in 387 (by first | rfl | decide +kernel) rfl
set_option maxRecDepth 20000 in
theorem tm_391 : (Cond.code y_B_shorter b_B_shorter 10 (some .int)) ∈ GW := gw_in 391 (by first | rfl | decide +kernel) rfl
set_option maxRecDepth 20000 in
theorem tm_398 : (Cond.fieldLink R_Model 7 "CellBenchModel" "m" "[I") ∈ GW := gw_in 398 (by first | rfl | decide +kernel) rfl
set_option maxRecDepth 20000 in
theorem tm_399 : (Cond.fieldLink R_Model 13 "CellBenchModel" "cells" "[J") ∈ GW := gw_in 399 (by first | rfl | decide +kernel) rfl
set_option maxRecDepth 20000 in
theorem tm_400 : (Cond.fieldLink R_Model 17 "CellBenchModel" "lows" "[J") ∈ GW := gw_in 400 (by first | rfl | decide +kernel) rfl
set_option maxRecDepth 20000 in
theorem tm_401 : (Cond.fieldLink R_Model 20 "CellBenchModel" "symmetry" "[I") ∈ GW := gw_in 401 (by first | rfl | decide +kernel) rfl
set_option maxRecDepth 20000 in
theorem tm_402 : (Cond.fieldLink R_Model 23 "CellBenchModel" "stepsOf" "[I") ∈ GW := gw_in 402 (by first | rfl | decide +kernel) rfl
set_option maxRecDepth 20000 in
theorem tm_403 : (Cond.fieldLink R_Model 42 "CellBenchModel" "cellMany" "I") ∈ GW := gw_in 403 (by first | rfl | decide +kernel) rfl
set_option maxRecDepth 20000 in
theorem tm_404 : (Cond.fieldLink R_Model 57 "CellBenchModel" "steps" "I") ∈ GW := gw_in 404 (by first | rfl | decide +kernel) rfl
set_option maxRecDepth 20000 in
theorem tm_405 : (Cond.fieldLink R_Model 26 "CellBenchModel" "six" "[J") ∈ GW := gw_in 405 (by first | rfl | decide +kernel) rfl
set_option maxRecDepth 20000 in
theorem tm_406 : (Cond.fieldLink R_Model 29 "CellBenchModel" "multi" "[J") ∈ GW := gw_in 406 (by first | rfl | decide +kernel) rfl
set_option maxRecDepth 20000 in
theorem tm_412 : (Cond.laysFinal "CellBenchModel" "CellBenchModel" "m" "[I") ∈ GW := gw_in 412 (by first | rfl | decide +kernel) rfl
set_option maxRecDepth 20000 in
theorem tm_414 : (Cond.laysFinal "CellBenchModel" "CellBenchModel" "cells" "[J") ∈ GW := gw_in 414 (by first | rfl | decide +kernel) rfl
set_option maxRecDepth 20000 in
theorem tm_416 : (Cond.laysFinal "CellBenchModel" "CellBenchModel" "lows" "[J") ∈ GW := gw_in 416 (by first | rfl | decide +kernel) rfl
set_option maxRecDepth 20000 in
theorem tm_418 : (Cond.laysFinal "CellBenchModel" "CellBenchModel" "symmetry" "[I") ∈ GW := gw_in 418 (by first | rfl | decide +kernel) rfl
set_option maxRecDepth 20000 in
theorem tm_420 : (Cond.laysFinal "CellBenchModel" "CellBenchModel" "stepsOf" "[I") ∈ GW := gw_in 420 (by first | rfl | decide +kernel) rfl
set_option maxRecDepth 20000 in
theorem tm_422 : (Cond.lays "CellBenchModel" "CellBenchModel" "cellMany" "I") ∈ GW := gw_in 422 (by first | rfl | decide +kernel) rfl
set_option maxRecDepth 20000 in
theorem tm_424 : (Cond.lays "CellBenchModel" "CellBenchModel" "steps" "I") ∈ GW := gw_in 424 (by first | rfl | decide +kernel) rfl
set_option maxRecDepth 20000 in
theorem tm_426 : (Cond.laysFinal "CellBenchModel" "CellBenchModel" "six" "[J") ∈ GW := gw_in 426 (by first | rfl | decide +kernel) rfl
set_option maxRecDepth 20000 in
theorem tm_428 : (Cond.laysFinal "CellBenchModel" "CellBenchModel" "multi" "[J") ∈ GW := gw_in 428 (by first | rfl | decide +kernel) rfl
set_option maxRecDepth 20000 in
theorem tm_430 : (Cond.laysFinal "CellBenchModel" "CellBenchModel" "comes" "[I") ∈ GW := gw_in 430 (by first | rfl | decide +kernel) rfl
set_option maxRecDepth 20000 in
theorem tm_432 : (Cond.lays "CellBenchModel" "CellBenchModel" "multis" "I") ∈ GW := gw_in 432 (by first | rfl | decide +kernel) rfl
set_option maxRecDepth 20000 in
theorem tm_434 : (Cond.lays "CellBenchModel" "CellBenchModel" "multiCell" "I") ∈ GW := gw_in 434 (by first | rfl | decide +kernel) rfl
set_option maxRecDepth 20000 in
theorem tm_436 : (Cond.lays "CellBenchModel" "CellBenchModel" "multiBy" "I") ∈ GW := gw_in 436 (by first | rfl | decide +kernel) rfl
set_option maxRecDepth 20000 in
theorem tm_438 : (Cond.laysFinal "CellBenchModel" "CellBenchModel" "other" "[J") ∈ GW := gw_in 438 (by first | rfl | decide +kernel) rfl
set_option maxRecDepth 20000 in
theorem tm_447 : (Cond.methodLink R_Model 47 y_M_between) ∈ GW := gw_in 447 (by first | rfl | decide +kernel) rfl
set_option maxRecDepth 20000 in
theorem tm_448 : (Cond.static y_M_between) ∈ GW := gw_in 448 (by first | rfl | decide +kernel) rfl
set_option maxRecDepth 20000 in
theorem tm_449 : (Cond.code y_M_between b_M_between 6 (some .boolean)) ∈ GW := gw_in 449 (by first | rfl | decide +kernel) rfl
set_option maxRecDepth 20000 in
theorem tm_451 : (Cond.methodLink R_Model 53 y_M_det) ∈ GW := gw_in 451 (by first | rfl | decide +kernel) rfl
set_option maxRecDepth 20000 in
theorem tm_452 : (Cond.static y_M_det) ∈ GW := gw_in 452 (by first | rfl | decide +kernel) rfl
set_option maxRecDepth 20000 in
theorem tm_453 : (Cond.code y_M_det b_M_det 14 (some .long)) ∈ GW := gw_in 453 (by first | rfl | decide +kernel) rfl
set_option maxRecDepth 20000 in
theorem tm_457 : (Cond.code y_M_reduce b_M_reduce 3 none) ∈ GW := gw_in 457 (by first | rfl | decide +kernel) rfl
set_option maxRecDepth 20000 in
theorem tm_458 : (Cond.constantLong R_Model 71 2) ∈ GW := gw_in 458 (by first | rfl | decide +kernel) rfl
set_option maxRecDepth 20000 in
theorem tm_459 : (Cond.methodLink R_Model 73 y_M_goes) ∈ GW := gw_in 459 (by first | rfl | decide +kernel) rfl
set_option maxRecDepth 20000 in
theorem tm_461 : (Cond.instanceMethod y_M_goes) ∈ GW := gw_in 461 (by first | rfl | decide +kernel) rfl
set_option maxRecDepth 20000 in
theorem tm_462 : (Cond.code y_M_goes b_M_goes 17 (some .boolean)) ∈ GW := gw_in 462 (by first | rfl | decide +kernel) rfl
set_option maxRecDepth 20000 in
theorem tm_463 : (Cond.methodLink R_Model 77 y_M_size) ∈ GW := gw_in 463 (by first | rfl | decide +kernel) rfl
set_option maxRecDepth 20000 in
theorem tm_464 : (Cond.static y_M_size) ∈ GW := gw_in 464 (by first | rfl | decide +kernel) rfl
set_option maxRecDepth 20000 in
theorem tm_465 : (Cond.code y_M_size b_M_size 2 (some .long)) ∈ GW := gw_in 465 (by first | rfl | decide +kernel) rfl
set_option maxRecDepth 20000 in
theorem tm_466 : (Cond.methodLink R_Model 81 y_M_exch) ∈ GW := gw_in 466 (by first | rfl | decide +kernel) rfl
set_option maxRecDepth 20000 in
theorem tm_468 : (Cond.instanceMethod y_M_exch) ∈ GW := gw_in 468 (by first | rfl | decide +kernel) rfl
set_option maxRecDepth 20000 in
theorem tm_469 : (Cond.code y_M_exch b_M_exch 5 none) ∈ GW := gw_in 469 (by first | rfl | decide +kernel) rfl
set_option maxRecDepth 20000 in
theorem tm_470 : (Cond.constantLong R_Model 85 (-1)) ∈ GW := gw_in 470 (by first | rfl | decide +kernel) rfl
set_option maxRecDepth 20000 in
theorem tm_474 : (Cond.code y_M_open b_M_open 4 none) ∈ GW := gw_in 474 (by first | rfl | decide +kernel) rfl
set_option maxRecDepth 20000 in
theorem tm_478 : (Cond.code y_M_keeps6 b_M_keeps6 3 (some .boolean)) ∈ GW := gw_in 478 (by first | rfl | decide +kernel) rfl
set_option maxRecDepth 20000 in
theorem tm_479 : (Cond.methodLink R_Model 87 y_M_dot) ∈ GW := gw_in 479 (by first | rfl | decide +kernel) rfl
set_option maxRecDepth 20000 in
theorem tm_480 : (Cond.static y_M_dot) ∈ GW := gw_in 480 (by first | rfl | decide +kernel) rfl
set_option maxRecDepth 20000 in
theorem tm_481 : (Cond.code y_M_dot b_M_dot 14 (some .long)) ∈ GW := gw_in 481 (by first | rfl | decide +kernel) rfl
set_option maxRecDepth 20000 in
theorem tm_485 : (Cond.code y_M_reduced b_M_reduced 3 (some .long)) ∈ GW := gw_in 485 (by first | rfl | decide +kernel) rfl
set_option maxRecDepth 20000 in
theorem tm_486 : (Cond.methodLink R_Model 91 y_M_isCell) ∈ GW := gw_in 486 (by first | rfl | decide +kernel) rfl
set_option maxRecDepth 20000 in
theorem tm_488 : (Cond.instanceMethod y_M_isCell) ∈ GW := gw_in 488 (by first | rfl | decide +kernel) rfl
set_option maxRecDepth 20000 in
theorem tm_489 : (Cond.code y_M_isCell b_M_isCell 2 (some .boolean)) ∈ GW := gw_in 489 (by first | rfl | decide +kernel) rfl
set_option maxRecDepth 20000 in
theorem tm_497 : (Cond.code y_M_same b_M_same 3 (some .int)) ∈ GW := gw_in 497 (by first | rfl | decide +kernel) rfl
set_option maxRecDepth 20000 in
theorem tm_498 : (Cond.methodLink R_Model 95 y_M_areSame) ∈ GW := gw_in 498 (by first | rfl | decide +kernel) rfl
set_option maxRecDepth 20000 in
theorem tm_500 : (Cond.instanceMethod y_M_areSame) ∈ GW := gw_in 500 (by first | rfl | decide +kernel) rfl
set_option maxRecDepth 20000 in
theorem tm_501 : (Cond.code y_M_areSame b_M_areSame 4 (some .boolean)) ∈ GW := gw_in 501 (by first | rfl | decide +kernel) rfl
set_option maxRecDepth 20000 in
theorem tm_509 : (Cond.code y_M_isMul b_M_isMul 3 (some .boolean)) ∈ GW := gw_in 509 (by first | rfl | decide +kernel) rfl
set_option maxRecDepth 20000 in
theorem tm_521 : (Cond.code y_M_comp b_M_comp 3 (some .int)) ∈ GW := gw_in 521 (by first | rfl | decide +kernel) rfl
set_option maxRecDepth 20000 in
theorem tm_533 : (Cond.code y_M_step b_M_step 5 (some .long)) ∈ GW := gw_in 533 (by first | rfl | decide +kernel) rfl
set_option maxRecDepth 20000 in
theorem tm_534 : (Cond.constantLong R_Model 119 (-1000)) ∈ GW := gw_in 534 (by first | rfl | decide +kernel) rfl
set_option maxRecDepth 20000 in
theorem tm_535 : (Cond.constantLong R_Model 121 1000) ∈ GW := gw_in 535 (by first | rfl | decide +kernel) rfl
theorem i_Products : ∀ w ∈ u_ws R_Products F_Products 6, w ∈ GW := by
  intro w hw
  obtain ⟨k, hk, rfl⟩ := List.mem_map.mp hw
  have hk := List.mem_range.mp hk
  match k, hk with
  | 0, _ => exact tm_145
  | 1, _ => exact tm_147
  | 2, _ => exact tm_149
  | 3, _ => exact tm_151
  | 4, _ => exact tm_153
  | 5, _ => exact tm_155
  | k + 6, h => omega
theorem i_Reducer : ∀ w ∈ u_ws R_Reducer F_Reducer 7, w ∈ GW := by
  intro w hw
  obtain ⟨k, hk, rfl⟩ := List.mem_map.mp hw
  have hk := List.mem_range.mp hk
  match k, hk with
  | 0, _ => exact tm_63
  | 1, _ => exact tm_65
  | 2, _ => exact tm_67
  | 3, _ => exact tm_69
  | 4, _ => exact tm_71
  | 5, _ => exact tm_73
  | 6, _ => exact tm_75
  | k + 7, h => omega
theorem i_Table : ∀ w ∈ u_ws R_Table F_Table 5, w ∈ GW := by
  intro w hw
  obtain ⟨k, hk, rfl⟩ := List.mem_map.mp hw
  have hk := List.mem_range.mp hk
  match k, hk with
  | 0, _ => exact tm_89
  | 1, _ => exact tm_91
  | 2, _ => exact tm_93
  | 3, _ => exact tm_95
  | 4, _ => exact tm_97
  | k + 5, h => omega
theorem i_Cell : ∀ w ∈ u_ws R_Cell F_Cell 4, w ∈ GW := by
  intro w hw
  obtain ⟨k, hk, rfl⟩ := List.mem_map.mp hw
  have hk := List.mem_range.mp hk
  match k, hk with
  | 0, _ => exact tm_265
  | 1, _ => exact tm_267
  | 2, _ => exact tm_269
  | 3, _ => exact tm_271
  | k + 4, h => omega
theorem i_Bench : ∀ w ∈ u_ws R_Bench F_Bench 5, w ∈ GW := by
  intro w hw
  obtain ⟨k, hk, rfl⟩ := List.mem_map.mp hw
  have hk := List.mem_range.mp hk
  match k, hk with
  | 0, _ => exact tm_106
  | 1, _ => exact tm_108
  | 2, _ => exact tm_110
  | 3, _ => exact tm_112
  | 4, _ => exact tm_114
  | k + 5, h => omega
theorem i_Model : ∀ w ∈ u_ws R_Model F_Model 14, w ∈ GW := by
  intro w hw
  obtain ⟨k, hk, rfl⟩ := List.mem_map.mp hw
  have hk := List.mem_range.mp hk
  match k, hk with
  | 0, _ => exact tm_412
  | 1, _ => exact tm_414
  | 2, _ => exact tm_416
  | 3, _ => exact tm_418
  | 4, _ => exact tm_420
  | 5, _ => exact tm_422
  | 6, _ => exact tm_424
  | 7, _ => exact tm_426
  | 8, _ => exact tm_428
  | 9, _ => exact tm_430
  | 10, _ => exact tm_432
  | 11, _ => exact tm_434
  | 12, _ => exact tm_436
  | 13, _ => exact tm_438
  | k + 14, h => omega
def bnd {α β : Type} (a : α) (f : α → β) : β := f a
theorem bnd_eq {α β : Type} (a : α) (f : α → β) : bnd a f = f a := rfl
end
section
theorem d_isSquare_0 : decode b_isSquare 0 = .ok (.iload_n 0, 1) := by decide +kernel
theorem d_isSquare_1 : decode b_isSquare 1 = .ok (.iconst 1, 1) := by decide +kernel
theorem d_isSquare_2 : decode b_isSquare 2 = .ok (.if_icmp .lt 14, 3) := by decide +kernel
theorem d_isSquare_5 : decode b_isSquare 5 = .ok (.iload_n 0, 1) := by decide +kernel
theorem d_isSquare_6 : decode b_isSquare 6 = .ok (.sipush 10000, 3) := by decide +kernel
theorem d_isSquare_9 : decode b_isSquare 9 = .ok (.if_icmp .gt 7, 3) := by decide +kernel
theorem d_isSquare_12 : decode b_isSquare 12 = .ok (.iconst 1, 1) := by decide +kernel
theorem d_isSquare_13 : decode b_isSquare 13 = .ok (.goto 4, 3) := by decide +kernel
theorem d_isSquare_16 : decode b_isSquare 16 = .ok (.iconst 0, 1) := by decide +kernel
theorem d_isSquare_17 : decode b_isSquare 17 = .ok (.ireturn, 1) := by decide +kernel
theorem d_isMixed_0 : decode b_isMixed 0 = .ok (.iload_n 0, 1) := by decide +kernel
theorem d_isMixed_1 : decode b_isMixed 1 = .ok (.sipush (-10000), 3) := by decide +kernel
theorem d_isMixed_4 : decode b_isMixed 4 = .ok (.if_icmp .lt 14, 3) := by decide +kernel
theorem d_isMixed_7 : decode b_isMixed 7 = .ok (.iload_n 0, 1) := by decide +kernel
theorem d_isMixed_8 : decode b_isMixed 8 = .ok (.sipush 10000, 3) := by decide +kernel
theorem d_isMixed_11 : decode b_isMixed 11 = .ok (.if_icmp .gt 7, 3) := by decide +kernel
theorem d_isMixed_14 : decode b_isMixed 14 = .ok (.iconst 1, 1) := by decide +kernel
theorem d_isMixed_15 : decode b_isMixed 15 = .ok (.goto 4, 3) := by decide +kernel
theorem d_isMixed_18 : decode b_isMixed 18 = .ok (.iconst 0, 1) := by decide +kernel
theorem d_isMixed_19 : decode b_isMixed 19 = .ok (.ireturn, 1) := by decide +kernel
theorem d_isMultiplier_0 : decode b_isMultiplier 0 = .ok (.iload_n 0, 1) := by decide +kernel
theorem d_isMultiplier_1 : decode b_isMultiplier 1 = .ok (.iconst 1, 1) := by decide +kernel
theorem d_isMultiplier_2 : decode b_isMultiplier 2 = .ok (.if_icmp .lt 13, 3) := by decide +kernel
theorem d_isMultiplier_5 : decode b_isMultiplier 5 = .ok (.iload_n 0, 1) := by decide +kernel
theorem d_isMultiplier_6 : decode b_isMultiplier 6 = .ok (.bipush 12, 2) := by decide +kernel
theorem d_isMultiplier_8 : decode b_isMultiplier 8 = .ok (.if_icmp .gt 7, 3) := by decide +kernel
theorem d_isMultiplier_11 : decode b_isMultiplier 11 = .ok (.iconst 1, 1) := by decide +kernel
theorem d_isMultiplier_12 : decode b_isMultiplier 12 = .ok (.goto 4, 3) := by decide +kernel
theorem d_isMultiplier_15 : decode b_isMultiplier 15 = .ok (.iconst 0, 1) := by decide +kernel
theorem d_isMultiplier_16 : decode b_isMultiplier 16 = .ok (.ireturn, 1) := by decide +kernel
theorem d_isRouteNumber_0 : decode b_isRouteNumber 0 = .ok (.iload_n 0, 1) := by decide +kernel
theorem d_isRouteNumber_1 : decode b_isRouteNumber 1 = .ok (.sipush (-1000), 3) := by decide +kernel
theorem d_isRouteNumber_4 : decode b_isRouteNumber 4 = .ok (.if_icmp .lt 14, 3) := by decide +kernel
theorem d_isRouteNumber_7 : decode b_isRouteNumber 7 = .ok (.iload_n 0, 1) := by decide +kernel
theorem d_isRouteNumber_8 : decode b_isRouteNumber 8 = .ok (.sipush 1000, 3) := by decide +kernel
theorem d_isRouteNumber_11 : decode b_isRouteNumber 11 = .ok (.if_icmp .gt 7, 3) := by decide +kernel
theorem d_isRouteNumber_14 : decode b_isRouteNumber 14 = .ok (.iconst 1, 1) := by decide +kernel
theorem d_isRouteNumber_15 : decode b_isRouteNumber 15 = .ok (.goto 4, 3) := by decide +kernel
theorem d_isRouteNumber_18 : decode b_isRouteNumber 18 = .ok (.iconst 0, 1) := by decide +kernel
theorem d_isRouteNumber_19 : decode b_isRouteNumber 19 = .ok (.ireturn, 1) := by decide +kernel
theorem d_columnAtEnd_0 : decode b_columnAtEnd 0 = .ok (.iload_n 0, 1) := by decide +kernel
theorem d_columnAtEnd_1 : decode b_columnAtEnd 1 = .ok (.sipush 729, 3) := by decide +kernel
theorem d_columnAtEnd_4 : decode b_columnAtEnd 4 = .ok (.idiv, 1) := by decide +kernel
theorem d_columnAtEnd_5 : decode b_columnAtEnd 5 = .ok (.iconst 3, 1) := by decide +kernel
theorem d_columnAtEnd_6 : decode b_columnAtEnd 6 = .ok (.irem, 1) := by decide +kernel
theorem d_columnAtEnd_7 : decode b_columnAtEnd 7 = .ok (.bipush 9, 2) := by decide +kernel
theorem d_columnAtEnd_9 : decode b_columnAtEnd 9 = .ok (.imul, 1) := by decide +kernel
theorem d_columnAtEnd_10 : decode b_columnAtEnd 10 = .ok (.iload_n 0, 1) := by decide +kernel
theorem d_columnAtEnd_11 : decode b_columnAtEnd 11 = .ok (.bipush 27, 2) := by decide +kernel
theorem d_columnAtEnd_13 : decode b_columnAtEnd 13 = .ok (.idiv, 1) := by decide +kernel
theorem d_columnAtEnd_14 : decode b_columnAtEnd 14 = .ok (.iconst 3, 1) := by decide +kernel
theorem d_columnAtEnd_15 : decode b_columnAtEnd 15 = .ok (.irem, 1) := by decide +kernel
theorem d_columnAtEnd_16 : decode b_columnAtEnd 16 = .ok (.iconst 3, 1) := by decide +kernel
theorem d_columnAtEnd_17 : decode b_columnAtEnd 17 = .ok (.imul, 1) := by decide +kernel
theorem d_columnAtEnd_18 : decode b_columnAtEnd 18 = .ok (.iadd, 1) := by decide +kernel
theorem d_columnAtEnd_19 : decode b_columnAtEnd 19 = .ok (.iload_n 0, 1) := by decide +kernel
theorem d_columnAtEnd_20 : decode b_columnAtEnd 20 = .ok (.iconst 3, 1) := by decide +kernel
theorem d_columnAtEnd_21 : decode b_columnAtEnd 21 = .ok (.irem, 1) := by decide +kernel
theorem d_columnAtEnd_22 : decode b_columnAtEnd 22 = .ok (.iadd, 1) := by decide +kernel
theorem d_columnAtEnd_23 : decode b_columnAtEnd 23 = .ok (.ireturn, 1) := by decide +kernel
theorem d_Long_cmp_0 : decode b_Long_cmp 0 = .ok (.lload_n 0, 1) := by decide +kernel
theorem d_Long_cmp_1 : decode b_Long_cmp 1 = .ok (.lload_n 2, 1) := by decide +kernel
theorem d_Long_cmp_2 : decode b_Long_cmp 2 = .ok (.lcmp, 1) := by decide +kernel
theorem d_Long_cmp_3 : decode b_Long_cmp 3 = .ok (.ifCond .ge 7, 3) := by decide +kernel
theorem d_Long_cmp_6 : decode b_Long_cmp 6 = .ok (.iconst (-1), 1) := by decide +kernel
theorem d_Long_cmp_7 : decode b_Long_cmp 7 = .ok (.goto 14, 3) := by decide +kernel
theorem d_Long_cmp_10 : decode b_Long_cmp 10 = .ok (.lload_n 0, 1) := by decide +kernel
theorem d_Long_cmp_11 : decode b_Long_cmp 11 = .ok (.lload_n 2, 1) := by decide +kernel
theorem d_Long_cmp_12 : decode b_Long_cmp 12 = .ok (.lcmp, 1) := by decide +kernel
theorem d_Long_cmp_13 : decode b_Long_cmp 13 = .ok (.ifCond .ne 7, 3) := by decide +kernel
theorem d_Long_cmp_16 : decode b_Long_cmp 16 = .ok (.iconst 0, 1) := by decide +kernel
theorem d_Long_cmp_17 : decode b_Long_cmp 17 = .ok (.goto 4, 3) := by decide +kernel
theorem d_Long_cmp_20 : decode b_Long_cmp 20 = .ok (.iconst 1, 1) := by decide +kernel
theorem d_Long_cmp_21 : decode b_Long_cmp 21 = .ok (.ireturn, 1) := by decide +kernel
end
section
-- CellBench isSquare (I)Z
def f_isSquare (v : Int32) : Int32 :=
    if v < (1 : Int32) then (0 : Int32) else (if (10000 : Int32) < v then (0 : Int32) else (1 : Int32))
def w_isSquare : List Cond := .code y_isSquare b_isSquare 1 (some .boolean) :: GW
abbrev rm_isSquare : Room := { frames := 0, cells := 0, slots := 0, locals := 0 }
theorem g_isSquare : GoodIn GW w_isSquare := gi tm_123
set_option maxHeartbeats 4000000 in
set_option maxRecDepth 100000 in
theorem c_isSquare (l : Launch) (D : va_G) (ct : CT) (ws : va_W)  (v : Int32)   (r0 : Int32) (h : f_isSquare v = r0) : Met l y_isSquare w_isSquare rm_isSquare (va_Pc [.int v] (PreP D ct ws)) (vp_Si (fun r => r = r0)) 0 0 (fun _ => False) := by
  refine Met.ofW (cc := b_isSquare) (maxL := 1) (ret := (some .boolean)) (by decide) rfl ?_
  intro p e s m args below meth c s₁ B hml hv
  obtain ⟨rfl, hP, hKK⟩ := hv
  have hx := B.exec
  have hb := B.bytes
  have hr := B.returns
  have htg := ht_tl (atoms_spec (ws := w_isSquare) B.pre)
  have hown : s.vm.findClass R_Bench = some m.cls := findClass_of_methodNamed B.named
  have hlocks := B.notSynchronized
  have hK := hKK.1
  have hN := hKK.2.1
  have hO := hKK.2.2
  have hl := lv_entry ([.int v]) (n := 1) (Nat.le_of_ble_eq_true rfl)
  rw [lg_entry_eq]
  generalize (lg_sl ([.int v]) ++ List.replicate (1 - (lg_sl ([.int v])).length) Slot.unset).toArray = ls at hl ⊢
  have hl : lv_has ls 1 [(0, .int v)] := hl
  unfold f_isSquare at h
  refine lv_iload_n hx hb d_isSquare_0 rfl (lv_at hl 0 rfl) ?_
  refine lv_iconst (v := (1 : Int32)) hx hb d_isSquare_1 (by decide) ?_
  refine lv_icmp_lt (tgt := 16) hx hb d_isSquare_2 (by decide) (fun c_1 => ?_) (fun c_1 => ?_)
  · rw [if_pos c_1] at h
    refine lv_iconst (v := (0 : Int32)) hx hb d_isSquare_16 (by decide) ?_
    exact W.zret (v := (0 : Int32)) (ty := .boolean) hx hb hr rfl (fun t ht hW => ⟨(0 : Int32), rfl, h, ht⟩) (fun q h => by cases h) d_isSquare_17
  · rw [if_neg c_1] at h
    refine lv_iload_n hx hb d_isSquare_5 rfl (lv_at hl 0 rfl) ?_
    refine lv_sipush (v := (10000 : Int32)) hx hb d_isSquare_6 (by decide) ?_
    refine lv_icmp_gt (tgt := 16) hx hb d_isSquare_9 (by decide) (fun c_2 => ?_) (fun c_2 => ?_)
    · rw [if_pos c_2] at h
      refine lv_iconst (v := (0 : Int32)) hx hb d_isSquare_16 (by decide) ?_
      exact W.zret (v := (0 : Int32)) (ty := .boolean) hx hb hr rfl (fun t ht hW => ⟨(0 : Int32), rfl, h, ht⟩) (fun q h => by cases h) d_isSquare_17
    · rw [if_neg c_2] at h
      refine lv_iconst (v := (1 : Int32)) hx hb d_isSquare_12 (by decide) ?_
      refine lv_goto (tgt := 17) hx hb d_isSquare_13 (by decide) ?_
      exact W.zret (v := (1 : Int32)) (ty := .boolean) hx hb hr rfl (fun t ht hW => ⟨(1 : Int32), rfl, h, ht⟩) (fun q h => by cases h) d_isSquare_17
-- CellBench isMixed (I)Z
def f_isMixed (v : Int32) : Int32 :=
    if v < (-10000 : Int32) then (0 : Int32) else (if (10000 : Int32) < v then (0 : Int32) else (1 : Int32))
def w_isMixed : List Cond := .code y_isMixed b_isMixed 1 (some .boolean) :: GW
abbrev rm_isMixed : Room := { frames := 0, cells := 0, slots := 0, locals := 0 }
theorem g_isMixed : GoodIn GW w_isMixed := gi tm_126
set_option maxHeartbeats 4000000 in
set_option maxRecDepth 100000 in
theorem c_isMixed (l : Launch) (D : va_G) (ct : CT) (ws : va_W)  (v : Int32)   (r0 : Int32) (h : f_isMixed v = r0) : Met l y_isMixed w_isMixed rm_isMixed (va_Pc [.int v] (PreP D ct ws)) (vp_Si (fun r => r = r0)) 0 0 (fun _ => False) := by
  refine Met.ofW (cc := b_isMixed) (maxL := 1) (ret := (some .boolean)) (by decide) rfl ?_
  intro p e s m args below meth c s₁ B hml hv
  obtain ⟨rfl, hP, hKK⟩ := hv
  have hx := B.exec
  have hb := B.bytes
  have hr := B.returns
  have htg := ht_tl (atoms_spec (ws := w_isMixed) B.pre)
  have hown : s.vm.findClass R_Bench = some m.cls := findClass_of_methodNamed B.named
  have hlocks := B.notSynchronized
  have hK := hKK.1
  have hN := hKK.2.1
  have hO := hKK.2.2
  have hl := lv_entry ([.int v]) (n := 1) (Nat.le_of_ble_eq_true rfl)
  rw [lg_entry_eq]
  generalize (lg_sl ([.int v]) ++ List.replicate (1 - (lg_sl ([.int v])).length) Slot.unset).toArray = ls at hl ⊢
  have hl : lv_has ls 1 [(0, .int v)] := hl
  unfold f_isMixed at h
  refine lv_iload_n hx hb d_isMixed_0 rfl (lv_at hl 0 rfl) ?_
  refine lv_sipush (v := (-10000 : Int32)) hx hb d_isMixed_1 (by decide) ?_
  refine lv_icmp_lt (tgt := 18) hx hb d_isMixed_4 (by decide) (fun c_1 => ?_) (fun c_1 => ?_)
  · rw [if_pos c_1] at h
    refine lv_iconst (v := (0 : Int32)) hx hb d_isMixed_18 (by decide) ?_
    exact W.zret (v := (0 : Int32)) (ty := .boolean) hx hb hr rfl (fun t ht hW => ⟨(0 : Int32), rfl, h, ht⟩) (fun q h => by cases h) d_isMixed_19
  · rw [if_neg c_1] at h
    refine lv_iload_n hx hb d_isMixed_7 rfl (lv_at hl 0 rfl) ?_
    refine lv_sipush (v := (10000 : Int32)) hx hb d_isMixed_8 (by decide) ?_
    refine lv_icmp_gt (tgt := 18) hx hb d_isMixed_11 (by decide) (fun c_2 => ?_) (fun c_2 => ?_)
    · rw [if_pos c_2] at h
      refine lv_iconst (v := (0 : Int32)) hx hb d_isMixed_18 (by decide) ?_
      exact W.zret (v := (0 : Int32)) (ty := .boolean) hx hb hr rfl (fun t ht hW => ⟨(0 : Int32), rfl, h, ht⟩) (fun q h => by cases h) d_isMixed_19
    · rw [if_neg c_2] at h
      refine lv_iconst (v := (1 : Int32)) hx hb d_isMixed_14 (by decide) ?_
      refine lv_goto (tgt := 19) hx hb d_isMixed_15 (by decide) ?_
      exact W.zret (v := (1 : Int32)) (ty := .boolean) hx hb hr rfl (fun t ht hW => ⟨(1 : Int32), rfl, h, ht⟩) (fun q h => by cases h) d_isMixed_19
-- CellBench isMultiplier (I)Z
def f_isMultiplier (v : Int32) : Int32 :=
    if v < (1 : Int32) then (0 : Int32) else (if (12 : Int32) < v then (0 : Int32) else (1 : Int32))
def w_isMultiplier : List Cond := .code y_isMultiplier b_isMultiplier 1 (some .boolean) :: GW
abbrev rm_isMultiplier : Room := { frames := 0, cells := 0, slots := 0, locals := 0 }
theorem g_isMultiplier : GoodIn GW w_isMultiplier := gi tm_314
set_option maxHeartbeats 4000000 in
set_option maxRecDepth 100000 in
theorem c_isMultiplier (l : Launch) (D : va_G) (ct : CT) (ws : va_W)  (v : Int32)   (r0 : Int32) (h : f_isMultiplier v = r0) : Met l y_isMultiplier w_isMultiplier rm_isMultiplier (va_Pc [.int v] (PreP D ct ws)) (vp_Si (fun r => r = r0)) 0 0 (fun _ => False) := by
  refine Met.ofW (cc := b_isMultiplier) (maxL := 1) (ret := (some .boolean)) (by decide) rfl ?_
  intro p e s m args below meth c s₁ B hml hv
  obtain ⟨rfl, hP, hKK⟩ := hv
  have hx := B.exec
  have hb := B.bytes
  have hr := B.returns
  have htg := ht_tl (atoms_spec (ws := w_isMultiplier) B.pre)
  have hown : s.vm.findClass R_Bench = some m.cls := findClass_of_methodNamed B.named
  have hlocks := B.notSynchronized
  have hK := hKK.1
  have hN := hKK.2.1
  have hO := hKK.2.2
  have hl := lv_entry ([.int v]) (n := 1) (Nat.le_of_ble_eq_true rfl)
  rw [lg_entry_eq]
  generalize (lg_sl ([.int v]) ++ List.replicate (1 - (lg_sl ([.int v])).length) Slot.unset).toArray = ls at hl ⊢
  have hl : lv_has ls 1 [(0, .int v)] := hl
  unfold f_isMultiplier at h
  refine lv_iload_n hx hb d_isMultiplier_0 rfl (lv_at hl 0 rfl) ?_
  refine lv_iconst (v := (1 : Int32)) hx hb d_isMultiplier_1 (by decide) ?_
  refine lv_icmp_lt (tgt := 15) hx hb d_isMultiplier_2 (by decide) (fun c_1 => ?_) (fun c_1 => ?_)
  · rw [if_pos c_1] at h
    refine lv_iconst (v := (0 : Int32)) hx hb d_isMultiplier_15 (by decide) ?_
    exact W.zret (v := (0 : Int32)) (ty := .boolean) hx hb hr rfl (fun t ht hW => ⟨(0 : Int32), rfl, h, ht⟩) (fun q h => by cases h) d_isMultiplier_16
  · rw [if_neg c_1] at h
    refine lv_iload_n hx hb d_isMultiplier_5 rfl (lv_at hl 0 rfl) ?_
    refine lv_bipush (v := (12 : Int32)) hx hb d_isMultiplier_6 (by decide) ?_
    refine lv_icmp_gt (tgt := 15) hx hb d_isMultiplier_8 (by decide) (fun c_2 => ?_) (fun c_2 => ?_)
    · rw [if_pos c_2] at h
      refine lv_iconst (v := (0 : Int32)) hx hb d_isMultiplier_15 (by decide) ?_
      exact W.zret (v := (0 : Int32)) (ty := .boolean) hx hb hr rfl (fun t ht hW => ⟨(0 : Int32), rfl, h, ht⟩) (fun q h => by cases h) d_isMultiplier_16
    · rw [if_neg c_2] at h
      refine lv_iconst (v := (1 : Int32)) hx hb d_isMultiplier_11 (by decide) ?_
      refine lv_goto (tgt := 16) hx hb d_isMultiplier_12 (by decide) ?_
      exact W.zret (v := (1 : Int32)) (ty := .boolean) hx hb hr rfl (fun t ht hW => ⟨(1 : Int32), rfl, h, ht⟩) (fun q h => by cases h) d_isMultiplier_16
-- CellBench isRouteNumber (I)Z
def f_isRouteNumber (v : Int32) : Int32 :=
    if v < (-1000 : Int32) then (0 : Int32) else (if (1000 : Int32) < v then (0 : Int32) else (1 : Int32))
def w_isRouteNumber : List Cond := .code y_isRouteNumber b_isRouteNumber 1 (some .boolean) :: GW
abbrev rm_isRouteNumber : Room := { frames := 0, cells := 0, slots := 0, locals := 0 }
theorem g_isRouteNumber : GoodIn GW w_isRouteNumber := gi tm_386
set_option maxHeartbeats 4000000 in
set_option maxRecDepth 100000 in
theorem c_isRouteNumber (l : Launch) (D : va_G) (ct : CT) (ws : va_W)  (v : Int32)   (r0 : Int32) (h : f_isRouteNumber v = r0) : Met l y_isRouteNumber w_isRouteNumber rm_isRouteNumber (va_Pc [.int v] (PreP D ct ws)) (vp_Si (fun r => r = r0)) 0 0 (fun _ => False) := by
  refine Met.ofW (cc := b_isRouteNumber) (maxL := 1) (ret := (some .boolean)) (by decide) rfl ?_
  intro p e s m args below meth c s₁ B hml hv
  obtain ⟨rfl, hP, hKK⟩ := hv
  have hx := B.exec
  have hb := B.bytes
  have hr := B.returns
  have htg := ht_tl (atoms_spec (ws := w_isRouteNumber) B.pre)
  have hown : s.vm.findClass R_Bench = some m.cls := findClass_of_methodNamed B.named
  have hlocks := B.notSynchronized
  have hK := hKK.1
  have hN := hKK.2.1
  have hO := hKK.2.2
  have hl := lv_entry ([.int v]) (n := 1) (Nat.le_of_ble_eq_true rfl)
  rw [lg_entry_eq]
  generalize (lg_sl ([.int v]) ++ List.replicate (1 - (lg_sl ([.int v])).length) Slot.unset).toArray = ls at hl ⊢
  have hl : lv_has ls 1 [(0, .int v)] := hl
  unfold f_isRouteNumber at h
  refine lv_iload_n hx hb d_isRouteNumber_0 rfl (lv_at hl 0 rfl) ?_
  refine lv_sipush (v := (-1000 : Int32)) hx hb d_isRouteNumber_1 (by decide) ?_
  refine lv_icmp_lt (tgt := 18) hx hb d_isRouteNumber_4 (by decide) (fun c_1 => ?_) (fun c_1 => ?_)
  · rw [if_pos c_1] at h
    refine lv_iconst (v := (0 : Int32)) hx hb d_isRouteNumber_18 (by decide) ?_
    exact W.zret (v := (0 : Int32)) (ty := .boolean) hx hb hr rfl (fun t ht hW => ⟨(0 : Int32), rfl, h, ht⟩) (fun q h => by cases h) d_isRouteNumber_19
  · rw [if_neg c_1] at h
    refine lv_iload_n hx hb d_isRouteNumber_7 rfl (lv_at hl 0 rfl) ?_
    refine lv_sipush (v := (1000 : Int32)) hx hb d_isRouteNumber_8 (by decide) ?_
    refine lv_icmp_gt (tgt := 18) hx hb d_isRouteNumber_11 (by decide) (fun c_2 => ?_) (fun c_2 => ?_)
    · rw [if_pos c_2] at h
      refine lv_iconst (v := (0 : Int32)) hx hb d_isRouteNumber_18 (by decide) ?_
      exact W.zret (v := (0 : Int32)) (ty := .boolean) hx hb hr rfl (fun t ht hW => ⟨(0 : Int32), rfl, h, ht⟩) (fun q h => by cases h) d_isRouteNumber_19
    · rw [if_neg c_2] at h
      refine lv_iconst (v := (1 : Int32)) hx hb d_isRouteNumber_14 (by decide) ?_
      refine lv_goto (tgt := 19) hx hb d_isRouteNumber_15 (by decide) ?_
      exact W.zret (v := (1 : Int32)) (ty := .boolean) hx hb hr rfl (fun t ht hW => ⟨(1 : Int32), rfl, h, ht⟩) (fun q h => by cases h) d_isRouteNumber_19
-- CellBench columnAtEnd (I)I
def f_columnAtEnd (v : Int32) : Int32 :=
    ((((v / (729 : Int32)) - (v / (729 : Int32)) / (3 : Int32) * (3 : Int32)) * (9 : Int32)) + (((v / (27 : Int32)) - (v / (27 : Int32)) / (3 : Int32) * (3 : Int32)) * (3 : Int32))) + (v - v / (3 : Int32) * (3 : Int32))
def w_columnAtEnd : List Cond := .code y_columnAtEnd b_columnAtEnd 1 (some .int) :: GW
abbrev rm_columnAtEnd : Room := { frames := 0, cells := 0, slots := 0, locals := 0 }
theorem g_columnAtEnd : GoodIn GW w_columnAtEnd := gi tm_293
set_option maxHeartbeats 4000000 in
set_option maxRecDepth 100000 in
theorem c_columnAtEnd (l : Launch) (D : va_G) (ct : CT) (ws : va_W)  (v : Int32)   (r0 : Int32) (h : f_columnAtEnd v = r0) : Met l y_columnAtEnd w_columnAtEnd rm_columnAtEnd (va_Pc [.int v] (PreP D ct ws)) (vp_Si (fun r => r = r0)) 0 0 (fun _ => False) := by
  refine Met.ofW (cc := b_columnAtEnd) (maxL := 1) (ret := (some .int)) (by decide) rfl ?_
  intro p e s m args below meth c s₁ B hml hv
  obtain ⟨rfl, hP, hKK⟩ := hv
  have hx := B.exec
  have hb := B.bytes
  have hr := B.returns
  have htg := ht_tl (atoms_spec (ws := w_columnAtEnd) B.pre)
  have hown : s.vm.findClass R_Bench = some m.cls := findClass_of_methodNamed B.named
  have hlocks := B.notSynchronized
  have hK := hKK.1
  have hN := hKK.2.1
  have hO := hKK.2.2
  have hl := lv_entry ([.int v]) (n := 1) (Nat.le_of_ble_eq_true rfl)
  rw [lg_entry_eq]
  generalize (lg_sl ([.int v]) ++ List.replicate (1 - (lg_sl ([.int v])).length) Slot.unset).toArray = ls at hl ⊢
  have hl : lv_has ls 1 [(0, .int v)] := hl
  unfold f_columnAtEnd at h
  refine lv_iload_n hx hb d_columnAtEnd_0 rfl (lv_at hl 0 rfl) ?_
  refine lv_sipush (v := (729 : Int32)) hx hb d_columnAtEnd_1 (by decide) ?_
  refine lv_idiv hx hb d_columnAtEnd_4 (by decide) ?_
  refine lv_iconst (v := (3 : Int32)) hx hb d_columnAtEnd_5 (by decide) ?_
  refine lv_irem hx hb d_columnAtEnd_6 (by decide) ?_
  refine lv_bipush (v := (9 : Int32)) hx hb d_columnAtEnd_7 (by decide) ?_
  refine lv_imul hx hb d_columnAtEnd_9 ?_
  refine lv_iload_n hx hb d_columnAtEnd_10 rfl (lv_at hl 0 rfl) ?_
  refine lv_bipush (v := (27 : Int32)) hx hb d_columnAtEnd_11 (by decide) ?_
  refine lv_idiv hx hb d_columnAtEnd_13 (by decide) ?_
  refine lv_iconst (v := (3 : Int32)) hx hb d_columnAtEnd_14 (by decide) ?_
  refine lv_irem hx hb d_columnAtEnd_15 (by decide) ?_
  refine lv_iconst (v := (3 : Int32)) hx hb d_columnAtEnd_16 (by decide) ?_
  refine lv_imul hx hb d_columnAtEnd_17 ?_
  refine lv_iadd hx hb d_columnAtEnd_18 ?_
  refine lv_iload_n hx hb d_columnAtEnd_19 rfl (lv_at hl 0 rfl) ?_
  refine lv_iconst (v := (3 : Int32)) hx hb d_columnAtEnd_20 (by decide) ?_
  refine lv_irem hx hb d_columnAtEnd_21 (by decide) ?_
  refine lv_iadd hx hb d_columnAtEnd_22 ?_
  exact W.iret (v := ((((v / (729 : Int32)) - (v / (729 : Int32)) / (3 : Int32) * (3 : Int32)) * (9 : Int32)) + (((v / (27 : Int32)) - (v / (27 : Int32)) / (3 : Int32) * (3 : Int32)) * (3 : Int32))) + (v - v / (3 : Int32) * (3 : Int32))) hx hb hr (fun t ht hW => ⟨((((v / (729 : Int32)) - (v / (729 : Int32)) / (3 : Int32) * (3 : Int32)) * (9 : Int32)) + (((v / (27 : Int32)) - (v / (27 : Int32)) / (3 : Int32) * (3 : Int32)) * (3 : Int32))) + (v - v / (3 : Int32) * (3 : Int32)), rfl, h, ht⟩) (fun q h => by cases h) d_columnAtEnd_23
-- java/lang/Long compare (JJ)I
def f_Long_cmp (x1 : Int64) (x2 : Int64) : Int32 :=
    if 0 ≤ (lg_cmp x1 x2) then (if (lg_cmp x1 x2) = 0 then (0 : Int32) else (1 : Int32)) else (-1 : Int32)
def w_Long_cmp : List Cond := .code y_Long_cmp b_Long_cmp 4 (some .int) :: GW
abbrev rm_Long_cmp : Room := { frames := 0, cells := 0, slots := 0, locals := 0 }
theorem g_Long_cmp : GoodIn GW w_Long_cmp := gi tm_201
set_option maxHeartbeats 4000000 in
set_option maxRecDepth 100000 in
theorem c_Long_cmp (l : Launch) (D : va_G) (ct : CT) (ws : va_W)  (x1 : Int64) (x2 : Int64)   (r0 : Int32) (h : f_Long_cmp x1 x2 = r0) : Met l y_Long_cmp w_Long_cmp rm_Long_cmp (va_Pc [.long x1, .long x2] (PreP D ct ws)) (vp_Si (fun r => r = r0)) 0 0 (fun _ => False) := by
  refine Met.ofW (cc := b_Long_cmp) (maxL := 4) (ret := (some .int)) (by decide) rfl ?_
  intro p e s m args below meth c s₁ B hml hv
  obtain ⟨rfl, hP, hKK⟩ := hv
  have hx := B.exec
  have hb := B.bytes
  have hr := B.returns
  have htg := ht_tl (atoms_spec (ws := w_Long_cmp) B.pre)
  have hown : s.vm.findClass "java/lang/Long" = some m.cls := findClass_of_methodNamed B.named
  have hlocks := B.notSynchronized
  have hK := hKK.1
  have hN := hKK.2.1
  have hO := hKK.2.2
  have hl := lv_entry ([.long x1, .long x2]) (n := 4) (Nat.le_of_ble_eq_true rfl)
  rw [lg_entry_eq]
  generalize (lg_sl ([.long x1, .long x2]) ++ List.replicate (4 - (lg_sl ([.long x1, .long x2])).length) Slot.unset).toArray = ls at hl ⊢
  have hl : lv_has ls 4 [(0, .long x1), (2, .long x2)] := hl
  unfold f_Long_cmp at h
  refine lv_lload_n hx hb d_Long_cmp_0 rfl (lv_at hl 0 rfl) ?_
  refine lv_lload_n hx hb d_Long_cmp_1 rfl (lv_at hl 1 rfl) ?_
  refine W.lcmp hx hb d_Long_cmp_2 ?_
  refine lv_if_ge (tgt := 10) hx hb d_Long_cmp_3 (by decide) (fun c_1 => ?_) (fun c_1 => ?_)
  · rw [if_pos c_1] at h
    refine lv_lload_n hx hb d_Long_cmp_10 rfl (lv_at hl 0 rfl) ?_
    refine lv_lload_n hx hb d_Long_cmp_11 rfl (lv_at hl 1 rfl) ?_
    refine W.lcmp hx hb d_Long_cmp_12 ?_
    refine lv_if_ne (tgt := 20) hx hb d_Long_cmp_13 (by decide) (fun c_2 => ?_) (fun c_2 => ?_)
    · rw [if_neg c_2] at h
      refine lv_iconst (v := (1 : Int32)) hx hb d_Long_cmp_20 (by decide) ?_
      exact W.iret (v := (1 : Int32)) hx hb hr (fun t ht hW => ⟨(1 : Int32), rfl, h, ht⟩) (fun q h => by cases h) d_Long_cmp_21
    · rw [if_pos c_2] at h
      refine lv_iconst (v := (0 : Int32)) hx hb d_Long_cmp_16 (by decide) ?_
      refine lv_goto (tgt := 21) hx hb d_Long_cmp_17 (by decide) ?_
      exact W.iret (v := (0 : Int32)) hx hb hr (fun t ht hW => ⟨(0 : Int32), rfl, h, ht⟩) (fun q h => by cases h) d_Long_cmp_21
  · rw [if_neg c_1] at h
    refine lv_iconst (v := (-1 : Int32)) hx hb d_Long_cmp_6 (by decide) ?_
    refine lv_goto (tgt := 21) hx hb d_Long_cmp_7 (by decide) ?_
    exact W.iret (v := (-1 : Int32)) hx hb hr (fun t ht hW => ⟨(-1 : Int32), rfl, h, ht⟩) (fun q h => by cases h) d_Long_cmp_21
end
section
theorem d_P_at_0 : decode b_P_at 0 = .ok (.iload_n 1, 1) := by decide +kernel
theorem d_P_at_1 : decode b_P_at 1 = .ok (.tableswitch 69 0 5 #[39, 44, 49, 54, 59, 64], 39) := by decide +kernel
theorem d_P_at_40 : decode b_P_at 40 = .ok (.aload_n 0, 1) := by decide +kernel
theorem d_P_at_41 : decode b_P_at 41 = .ok (.getfield 9, 3) := by decide +kernel
theorem d_P_at_44 : decode b_P_at 44 = .ok (.lreturn, 1) := by decide +kernel
theorem d_P_at_45 : decode b_P_at 45 = .ok (.aload_n 0, 1) := by decide +kernel
theorem d_P_at_46 : decode b_P_at 46 = .ok (.getfield 15, 3) := by decide +kernel
theorem d_P_at_49 : decode b_P_at 49 = .ok (.lreturn, 1) := by decide +kernel
theorem d_P_at_50 : decode b_P_at 50 = .ok (.aload_n 0, 1) := by decide +kernel
theorem d_P_at_51 : decode b_P_at 51 = .ok (.getfield 18, 3) := by decide +kernel
theorem d_P_at_54 : decode b_P_at 54 = .ok (.lreturn, 1) := by decide +kernel
theorem d_P_at_55 : decode b_P_at 55 = .ok (.aload_n 0, 1) := by decide +kernel
theorem d_P_at_56 : decode b_P_at 56 = .ok (.getfield 21, 3) := by decide +kernel
theorem d_P_at_59 : decode b_P_at 59 = .ok (.lreturn, 1) := by decide +kernel
theorem d_P_at_60 : decode b_P_at 60 = .ok (.aload_n 0, 1) := by decide +kernel
theorem d_P_at_61 : decode b_P_at 61 = .ok (.getfield 24, 3) := by decide +kernel
theorem d_P_at_64 : decode b_P_at 64 = .ok (.lreturn, 1) := by decide +kernel
theorem d_P_at_65 : decode b_P_at 65 = .ok (.aload_n 0, 1) := by decide +kernel
theorem d_P_at_66 : decode b_P_at 66 = .ok (.getfield 27, 3) := by decide +kernel
theorem d_P_at_69 : decode b_P_at 69 = .ok (.lreturn, 1) := by decide +kernel
theorem d_P_at_70 : decode b_P_at 70 = .ok (.lconst 0, 1) := by decide +kernel
theorem d_P_at_71 : decode b_P_at 71 = .ok (.lreturn, 1) := by decide +kernel
theorem d_P_det_0 : decode b_P_det 0 = .ok (.aload_n 0, 1) := by decide +kernel
theorem d_P_det_1 : decode b_P_det 1 = .ok (.getfield 9, 3) := by decide +kernel
theorem d_P_det_4 : decode b_P_det 4 = .ok (.aload_n 0, 1) := by decide +kernel
theorem d_P_det_5 : decode b_P_det 5 = .ok (.getfield 15, 3) := by decide +kernel
theorem d_P_det_8 : decode b_P_det 8 = .ok (.aload_n 0, 1) := by decide +kernel
theorem d_P_det_9 : decode b_P_det 9 = .ok (.getfield 18, 3) := by decide +kernel
theorem d_P_det_12 : decode b_P_det 12 = .ok (.lmul, 1) := by decide +kernel
theorem d_P_det_13 : decode b_P_det 13 = .ok (.aload_n 0, 1) := by decide +kernel
theorem d_P_det_14 : decode b_P_det 14 = .ok (.getfield 21, 3) := by decide +kernel
theorem d_P_det_17 : decode b_P_det 17 = .ok (.aload_n 0, 1) := by decide +kernel
theorem d_P_det_18 : decode b_P_det 18 = .ok (.getfield 21, 3) := by decide +kernel
theorem d_P_det_21 : decode b_P_det 21 = .ok (.lmul, 1) := by decide +kernel
theorem d_P_det_22 : decode b_P_det 22 = .ok (.lsub, 1) := by decide +kernel
theorem d_P_det_23 : decode b_P_det 23 = .ok (.lmul, 1) := by decide +kernel
theorem d_P_det_24 : decode b_P_det 24 = .ok (.aload_n 0, 1) := by decide +kernel
theorem d_P_det_25 : decode b_P_det 25 = .ok (.getfield 27, 3) := by decide +kernel
theorem d_P_det_28 : decode b_P_det 28 = .ok (.aload_n 0, 1) := by decide +kernel
theorem d_P_det_29 : decode b_P_det 29 = .ok (.getfield 27, 3) := by decide +kernel
theorem d_P_det_32 : decode b_P_det 32 = .ok (.aload_n 0, 1) := by decide +kernel
theorem d_P_det_33 : decode b_P_det 33 = .ok (.getfield 18, 3) := by decide +kernel
theorem d_P_det_36 : decode b_P_det 36 = .ok (.lmul, 1) := by decide +kernel
theorem d_P_det_37 : decode b_P_det 37 = .ok (.aload_n 0, 1) := by decide +kernel
theorem d_P_det_38 : decode b_P_det 38 = .ok (.getfield 21, 3) := by decide +kernel
theorem d_P_det_41 : decode b_P_det 41 = .ok (.aload_n 0, 1) := by decide +kernel
theorem d_P_det_42 : decode b_P_det 42 = .ok (.getfield 24, 3) := by decide +kernel
theorem d_P_det_45 : decode b_P_det 45 = .ok (.lmul, 1) := by decide +kernel
theorem d_P_det_46 : decode b_P_det 46 = .ok (.lsub, 1) := by decide +kernel
theorem d_P_det_47 : decode b_P_det 47 = .ok (.lmul, 1) := by decide +kernel
theorem d_P_det_48 : decode b_P_det 48 = .ok (.lsub, 1) := by decide +kernel
theorem d_P_det_49 : decode b_P_det 49 = .ok (.aload_n 0, 1) := by decide +kernel
theorem d_P_det_50 : decode b_P_det 50 = .ok (.getfield 24, 3) := by decide +kernel
theorem d_P_det_53 : decode b_P_det 53 = .ok (.aload_n 0, 1) := by decide +kernel
theorem d_P_det_54 : decode b_P_det 54 = .ok (.getfield 27, 3) := by decide +kernel
theorem d_P_det_57 : decode b_P_det 57 = .ok (.aload_n 0, 1) := by decide +kernel
theorem d_P_det_58 : decode b_P_det 58 = .ok (.getfield 21, 3) := by decide +kernel
theorem d_P_det_61 : decode b_P_det 61 = .ok (.lmul, 1) := by decide +kernel
theorem d_P_det_62 : decode b_P_det 62 = .ok (.aload_n 0, 1) := by decide +kernel
theorem d_P_det_63 : decode b_P_det 63 = .ok (.getfield 15, 3) := by decide +kernel
theorem d_P_det_66 : decode b_P_det 66 = .ok (.aload_n 0, 1) := by decide +kernel
theorem d_P_det_67 : decode b_P_det 67 = .ok (.getfield 24, 3) := by decide +kernel
theorem d_P_det_70 : decode b_P_det 70 = .ok (.lmul, 1) := by decide +kernel
theorem d_P_det_71 : decode b_P_det 71 = .ok (.lsub, 1) := by decide +kernel
theorem d_P_det_72 : decode b_P_det 72 = .ok (.lmul, 1) := by decide +kernel
theorem d_P_det_73 : decode b_P_det 73 = .ok (.ladd, 1) := by decide +kernel
theorem d_P_det_74 : decode b_P_det 74 = .ok (.lreturn, 1) := by decide +kernel
theorem d_P_span_0 : decode b_P_span 0 = .ok (.aload_n 0, 1) := by decide +kernel
theorem d_P_span_1 : decode b_P_span 1 = .ok (.getfield 9, 3) := by decide +kernel
theorem d_P_span_4 : decode b_P_span 4 = .ok (.aload_n 0, 1) := by decide +kernel
theorem d_P_span_5 : decode b_P_span 5 = .ok (.getfield 15, 3) := by decide +kernel
theorem d_P_span_8 : decode b_P_span 8 = .ok (.lmul, 1) := by decide +kernel
theorem d_P_span_9 : decode b_P_span 9 = .ok (.aload_n 0, 1) := by decide +kernel
theorem d_P_span_10 : decode b_P_span 10 = .ok (.getfield 27, 3) := by decide +kernel
theorem d_P_span_13 : decode b_P_span 13 = .ok (.aload_n 0, 1) := by decide +kernel
theorem d_P_span_14 : decode b_P_span 14 = .ok (.getfield 27, 3) := by decide +kernel
theorem d_P_span_17 : decode b_P_span 17 = .ok (.lmul, 1) := by decide +kernel
theorem d_P_span_18 : decode b_P_span 18 = .ok (.lsub, 1) := by decide +kernel
theorem d_P_span_19 : decode b_P_span 19 = .ok (.lconst 0, 1) := by decide +kernel
theorem d_P_span_20 : decode b_P_span 20 = .ok (.lcmp, 1) := by decide +kernel
theorem d_P_span_21 : decode b_P_span 21 = .ok (.ifCond .le 16, 3) := by decide +kernel
theorem d_P_span_24 : decode b_P_span 24 = .ok (.aload_n 0, 1) := by decide +kernel
theorem d_P_span_25 : decode b_P_span 25 = .ok (.invokevirtual 30, 3) := by decide +kernel
theorem d_P_span_28 : decode b_P_span 28 = .ok (.lconst 0, 1) := by decide +kernel
theorem d_P_span_29 : decode b_P_span 29 = .ok (.lcmp, 1) := by decide +kernel
theorem d_P_span_30 : decode b_P_span 30 = .ok (.ifCond .le 7, 3) := by decide +kernel
theorem d_P_span_33 : decode b_P_span 33 = .ok (.iconst 1, 1) := by decide +kernel
theorem d_P_span_34 : decode b_P_span 34 = .ok (.goto 4, 3) := by decide +kernel
theorem d_P_span_37 : decode b_P_span 37 = .ok (.iconst 0, 1) := by decide +kernel
theorem d_P_span_38 : decode b_P_span 38 = .ok (.ireturn, 1) := by decide +kernel
theorem d_P_prod_0 : decode b_P_prod 0 = .ok (.aload_n 0, 1) := by decide +kernel
theorem d_P_prod_1 : decode b_P_prod 1 = .ok (.getfield 9, 3) := by decide +kernel
theorem d_P_prod_4 : decode b_P_prod 4 = .ok (.lload_n 1, 1) := by decide +kernel
theorem d_P_prod_5 : decode b_P_prod 5 = .ok (.lmul, 1) := by decide +kernel
theorem d_P_prod_6 : decode b_P_prod 6 = .ok (.lload 7, 2) := by decide +kernel
theorem d_P_prod_8 : decode b_P_prod 8 = .ok (.lmul, 1) := by decide +kernel
theorem d_P_prod_9 : decode b_P_prod 9 = .ok (.aload_n 0, 1) := by decide +kernel
theorem d_P_prod_10 : decode b_P_prod 10 = .ok (.getfield 15, 3) := by decide +kernel
theorem d_P_prod_13 : decode b_P_prod 13 = .ok (.lload_n 3, 1) := by decide +kernel
theorem d_P_prod_14 : decode b_P_prod 14 = .ok (.lmul, 1) := by decide +kernel
theorem d_P_prod_15 : decode b_P_prod 15 = .ok (.lload 9, 2) := by decide +kernel
theorem d_P_prod_17 : decode b_P_prod 17 = .ok (.lmul, 1) := by decide +kernel
theorem d_P_prod_18 : decode b_P_prod 18 = .ok (.ladd, 1) := by decide +kernel
theorem d_P_prod_19 : decode b_P_prod 19 = .ok (.aload_n 0, 1) := by decide +kernel
theorem d_P_prod_20 : decode b_P_prod 20 = .ok (.getfield 18, 3) := by decide +kernel
theorem d_P_prod_23 : decode b_P_prod 23 = .ok (.lload 5, 2) := by decide +kernel
theorem d_P_prod_25 : decode b_P_prod 25 = .ok (.lmul, 1) := by decide +kernel
theorem d_P_prod_26 : decode b_P_prod 26 = .ok (.lload 11, 2) := by decide +kernel
theorem d_P_prod_28 : decode b_P_prod 28 = .ok (.lmul, 1) := by decide +kernel
theorem d_P_prod_29 : decode b_P_prod 29 = .ok (.ladd, 1) := by decide +kernel
theorem d_P_prod_30 : decode b_P_prod 30 = .ok (.aload_n 0, 1) := by decide +kernel
theorem d_P_prod_31 : decode b_P_prod 31 = .ok (.getfield 21, 3) := by decide +kernel
theorem d_P_prod_34 : decode b_P_prod 34 = .ok (.lload_n 3, 1) := by decide +kernel
theorem d_P_prod_35 : decode b_P_prod 35 = .ok (.lload 11, 2) := by decide +kernel
theorem d_P_prod_37 : decode b_P_prod 37 = .ok (.lmul, 1) := by decide +kernel
theorem d_P_prod_38 : decode b_P_prod 38 = .ok (.lload 5, 2) := by decide +kernel
theorem d_P_prod_40 : decode b_P_prod 40 = .ok (.lload 9, 2) := by decide +kernel
theorem d_P_prod_42 : decode b_P_prod 42 = .ok (.lmul, 1) := by decide +kernel
theorem d_P_prod_43 : decode b_P_prod 43 = .ok (.ladd, 1) := by decide +kernel
theorem d_P_prod_44 : decode b_P_prod 44 = .ok (.lmul, 1) := by decide +kernel
theorem d_P_prod_45 : decode b_P_prod 45 = .ok (.ladd, 1) := by decide +kernel
theorem d_P_prod_46 : decode b_P_prod 46 = .ok (.aload_n 0, 1) := by decide +kernel
theorem d_P_prod_47 : decode b_P_prod 47 = .ok (.getfield 24, 3) := by decide +kernel
theorem d_P_prod_50 : decode b_P_prod 50 = .ok (.lload_n 1, 1) := by decide +kernel
theorem d_P_prod_51 : decode b_P_prod 51 = .ok (.lload 11, 2) := by decide +kernel
theorem d_P_prod_53 : decode b_P_prod 53 = .ok (.lmul, 1) := by decide +kernel
theorem d_P_prod_54 : decode b_P_prod 54 = .ok (.lload 5, 2) := by decide +kernel
theorem d_P_prod_56 : decode b_P_prod 56 = .ok (.lload 7, 2) := by decide +kernel
theorem d_P_prod_58 : decode b_P_prod 58 = .ok (.lmul, 1) := by decide +kernel
theorem d_P_prod_59 : decode b_P_prod 59 = .ok (.ladd, 1) := by decide +kernel
theorem d_P_prod_60 : decode b_P_prod 60 = .ok (.lmul, 1) := by decide +kernel
theorem d_P_prod_61 : decode b_P_prod 61 = .ok (.ladd, 1) := by decide +kernel
theorem d_P_prod_62 : decode b_P_prod 62 = .ok (.aload_n 0, 1) := by decide +kernel
theorem d_P_prod_63 : decode b_P_prod 63 = .ok (.getfield 27, 3) := by decide +kernel
theorem d_P_prod_66 : decode b_P_prod 66 = .ok (.lload_n 1, 1) := by decide +kernel
theorem d_P_prod_67 : decode b_P_prod 67 = .ok (.lload 9, 2) := by decide +kernel
theorem d_P_prod_69 : decode b_P_prod 69 = .ok (.lmul, 1) := by decide +kernel
theorem d_P_prod_70 : decode b_P_prod 70 = .ok (.lload_n 3, 1) := by decide +kernel
theorem d_P_prod_71 : decode b_P_prod 71 = .ok (.lload 7, 2) := by decide +kernel
theorem d_P_prod_73 : decode b_P_prod 73 = .ok (.lmul, 1) := by decide +kernel
theorem d_P_prod_74 : decode b_P_prod 74 = .ok (.ladd, 1) := by decide +kernel
theorem d_P_prod_75 : decode b_P_prod 75 = .ok (.lmul, 1) := by decide +kernel
theorem d_P_prod_76 : decode b_P_prod 76 = .ok (.ladd, 1) := by decide +kernel
theorem d_P_prod_77 : decode b_P_prod 77 = .ok (.lreturn, 1) := by decide +kernel
theorem d_P_colp_0 : decode b_P_colp 0 = .ok (.aload_n 0, 1) := by decide +kernel
theorem d_P_colp_1 : decode b_P_colp 1 = .ok (.iload_n 1, 1) := by decide +kernel
theorem d_P_colp_2 : decode b_P_colp 2 = .ok (.bipush 9, 2) := by decide +kernel
theorem d_P_colp_4 : decode b_P_colp 4 = .ok (.idiv, 1) := by decide +kernel
theorem d_P_colp_5 : decode b_P_colp 5 = .ok (.iconst 3, 1) := by decide +kernel
theorem d_P_colp_6 : decode b_P_colp 6 = .ok (.irem, 1) := by decide +kernel
theorem d_P_colp_7 : decode b_P_colp 7 = .ok (.iconst 1, 1) := by decide +kernel
theorem d_P_colp_8 : decode b_P_colp 8 = .ok (.isub, 1) := by decide +kernel
theorem d_P_colp_9 : decode b_P_colp 9 = .ok (.i2l, 1) := by decide +kernel
theorem d_P_colp_10 : decode b_P_colp 10 = .ok (.iload_n 1, 1) := by decide +kernel
theorem d_P_colp_11 : decode b_P_colp 11 = .ok (.iconst 3, 1) := by decide +kernel
theorem d_P_colp_12 : decode b_P_colp 12 = .ok (.idiv, 1) := by decide +kernel
theorem d_P_colp_13 : decode b_P_colp 13 = .ok (.iconst 3, 1) := by decide +kernel
theorem d_P_colp_14 : decode b_P_colp 14 = .ok (.irem, 1) := by decide +kernel
theorem d_P_colp_15 : decode b_P_colp 15 = .ok (.iconst 1, 1) := by decide +kernel
theorem d_P_colp_16 : decode b_P_colp 16 = .ok (.isub, 1) := by decide +kernel
theorem d_P_colp_17 : decode b_P_colp 17 = .ok (.i2l, 1) := by decide +kernel
theorem d_P_colp_18 : decode b_P_colp 18 = .ok (.iload_n 1, 1) := by decide +kernel
theorem d_P_colp_19 : decode b_P_colp 19 = .ok (.iconst 3, 1) := by decide +kernel
theorem d_P_colp_20 : decode b_P_colp 20 = .ok (.irem, 1) := by decide +kernel
theorem d_P_colp_21 : decode b_P_colp 21 = .ok (.iconst 1, 1) := by decide +kernel
theorem d_P_colp_22 : decode b_P_colp 22 = .ok (.isub, 1) := by decide +kernel
theorem d_P_colp_23 : decode b_P_colp 23 = .ok (.i2l, 1) := by decide +kernel
theorem d_P_colp_24 : decode b_P_colp 24 = .ok (.iload_n 2, 1) := by decide +kernel
theorem d_P_colp_25 : decode b_P_colp 25 = .ok (.bipush 9, 2) := by decide +kernel
theorem d_P_colp_27 : decode b_P_colp 27 = .ok (.idiv, 1) := by decide +kernel
theorem d_P_colp_28 : decode b_P_colp 28 = .ok (.iconst 3, 1) := by decide +kernel
theorem d_P_colp_29 : decode b_P_colp 29 = .ok (.irem, 1) := by decide +kernel
theorem d_P_colp_30 : decode b_P_colp 30 = .ok (.iconst 1, 1) := by decide +kernel
theorem d_P_colp_31 : decode b_P_colp 31 = .ok (.isub, 1) := by decide +kernel
theorem d_P_colp_32 : decode b_P_colp 32 = .ok (.i2l, 1) := by decide +kernel
theorem d_P_colp_33 : decode b_P_colp 33 = .ok (.iload_n 2, 1) := by decide +kernel
theorem d_P_colp_34 : decode b_P_colp 34 = .ok (.iconst 3, 1) := by decide +kernel
theorem d_P_colp_35 : decode b_P_colp 35 = .ok (.idiv, 1) := by decide +kernel
theorem d_P_colp_36 : decode b_P_colp 36 = .ok (.iconst 3, 1) := by decide +kernel
theorem d_P_colp_37 : decode b_P_colp 37 = .ok (.irem, 1) := by decide +kernel
theorem d_P_colp_38 : decode b_P_colp 38 = .ok (.iconst 1, 1) := by decide +kernel
theorem d_P_colp_39 : decode b_P_colp 39 = .ok (.isub, 1) := by decide +kernel
theorem d_P_colp_40 : decode b_P_colp 40 = .ok (.i2l, 1) := by decide +kernel
theorem d_P_colp_41 : decode b_P_colp 41 = .ok (.iload_n 2, 1) := by decide +kernel
theorem d_P_colp_42 : decode b_P_colp 42 = .ok (.iconst 3, 1) := by decide +kernel
theorem d_P_colp_43 : decode b_P_colp 43 = .ok (.irem, 1) := by decide +kernel
theorem d_P_colp_44 : decode b_P_colp 44 = .ok (.iconst 1, 1) := by decide +kernel
theorem d_P_colp_45 : decode b_P_colp 45 = .ok (.isub, 1) := by decide +kernel
theorem d_P_colp_46 : decode b_P_colp 46 = .ok (.i2l, 1) := by decide +kernel
theorem d_P_colp_47 : decode b_P_colp 47 = .ok (.invokevirtual 34, 3) := by decide +kernel
theorem d_P_colp_50 : decode b_P_colp 50 = .ok (.lreturn, 1) := by decide +kernel
theorem d_P_fit2_0 : decode b_P_fit2 0 = .ok (.aload_n 0, 1) := by decide +kernel
theorem d_P_fit2_1 : decode b_P_fit2 1 = .ok (.iload_n 2, 1) := by decide +kernel
theorem d_P_fit2_2 : decode b_P_fit2 2 = .ok (.iload_n 2, 1) := by decide +kernel
theorem d_P_fit2_3 : decode b_P_fit2 3 = .ok (.invokevirtual 38, 3) := by decide +kernel
theorem d_P_fit2_6 : decode b_P_fit2 6 = .ok (.aload_n 0, 1) := by decide +kernel
theorem d_P_fit2_7 : decode b_P_fit2 7 = .ok (.getfield 15, 3) := by decide +kernel
theorem d_P_fit2_10 : decode b_P_fit2 10 = .ok (.lcmp, 1) := by decide +kernel
theorem d_P_fit2_11 : decode b_P_fit2 11 = .ok (.ifCond .ne 21, 3) := by decide +kernel
theorem d_P_fit2_14 : decode b_P_fit2 14 = .ok (.aload_n 0, 1) := by decide +kernel
theorem d_P_fit2_15 : decode b_P_fit2 15 = .ok (.iload_n 1, 1) := by decide +kernel
theorem d_P_fit2_16 : decode b_P_fit2 16 = .ok (.iload_n 2, 1) := by decide +kernel
theorem d_P_fit2_17 : decode b_P_fit2 17 = .ok (.invokevirtual 38, 3) := by decide +kernel
theorem d_P_fit2_20 : decode b_P_fit2 20 = .ok (.aload_n 0, 1) := by decide +kernel
theorem d_P_fit2_21 : decode b_P_fit2 21 = .ok (.getfield 27, 3) := by decide +kernel
theorem d_P_fit2_24 : decode b_P_fit2 24 = .ok (.lcmp, 1) := by decide +kernel
theorem d_P_fit2_25 : decode b_P_fit2 25 = .ok (.ifCond .ne 7, 3) := by decide +kernel
theorem d_P_fit2_28 : decode b_P_fit2 28 = .ok (.iconst 1, 1) := by decide +kernel
theorem d_P_fit2_29 : decode b_P_fit2 29 = .ok (.goto 4, 3) := by decide +kernel
theorem d_P_fit2_32 : decode b_P_fit2 32 = .ok (.iconst 0, 1) := by decide +kernel
theorem d_P_fit2_33 : decode b_P_fit2 33 = .ok (.ireturn, 1) := by decide +kernel
theorem d_P_fit3_0 : decode b_P_fit3 0 = .ok (.aload_n 0, 1) := by decide +kernel
theorem d_P_fit3_1 : decode b_P_fit3 1 = .ok (.iload_n 3, 1) := by decide +kernel
theorem d_P_fit3_2 : decode b_P_fit3 2 = .ok (.iload_n 3, 1) := by decide +kernel
theorem d_P_fit3_3 : decode b_P_fit3 3 = .ok (.invokevirtual 38, 3) := by decide +kernel
theorem d_P_fit3_6 : decode b_P_fit3 6 = .ok (.aload_n 0, 1) := by decide +kernel
theorem d_P_fit3_7 : decode b_P_fit3 7 = .ok (.getfield 18, 3) := by decide +kernel
theorem d_P_fit3_10 : decode b_P_fit3 10 = .ok (.lcmp, 1) := by decide +kernel
theorem d_P_fit3_11 : decode b_P_fit3 11 = .ok (.ifCond .ne 35, 3) := by decide +kernel
theorem d_P_fit3_14 : decode b_P_fit3 14 = .ok (.aload_n 0, 1) := by decide +kernel
theorem d_P_fit3_15 : decode b_P_fit3 15 = .ok (.iload_n 1, 1) := by decide +kernel
theorem d_P_fit3_16 : decode b_P_fit3 16 = .ok (.iload_n 3, 1) := by decide +kernel
theorem d_P_fit3_17 : decode b_P_fit3 17 = .ok (.invokevirtual 38, 3) := by decide +kernel
theorem d_P_fit3_20 : decode b_P_fit3 20 = .ok (.aload_n 0, 1) := by decide +kernel
theorem d_P_fit3_21 : decode b_P_fit3 21 = .ok (.getfield 24, 3) := by decide +kernel
theorem d_P_fit3_24 : decode b_P_fit3 24 = .ok (.lcmp, 1) := by decide +kernel
theorem d_P_fit3_25 : decode b_P_fit3 25 = .ok (.ifCond .ne 21, 3) := by decide +kernel
theorem d_P_fit3_28 : decode b_P_fit3 28 = .ok (.aload_n 0, 1) := by decide +kernel
theorem d_P_fit3_29 : decode b_P_fit3 29 = .ok (.iload_n 2, 1) := by decide +kernel
theorem d_P_fit3_30 : decode b_P_fit3 30 = .ok (.iload_n 3, 1) := by decide +kernel
theorem d_P_fit3_31 : decode b_P_fit3 31 = .ok (.invokevirtual 38, 3) := by decide +kernel
theorem d_P_fit3_34 : decode b_P_fit3 34 = .ok (.aload_n 0, 1) := by decide +kernel
theorem d_P_fit3_35 : decode b_P_fit3 35 = .ok (.getfield 21, 3) := by decide +kernel
theorem d_P_fit3_38 : decode b_P_fit3 38 = .ok (.lcmp, 1) := by decide +kernel
theorem d_P_fit3_39 : decode b_P_fit3 39 = .ok (.ifCond .ne 7, 3) := by decide +kernel
theorem d_P_fit3_42 : decode b_P_fit3 42 = .ok (.iconst 1, 1) := by decide +kernel
theorem d_P_fit3_43 : decode b_P_fit3 43 = .ok (.goto 4, 3) := by decide +kernel
theorem d_P_fit3_46 : decode b_P_fit3 46 = .ok (.iconst 0, 1) := by decide +kernel
theorem d_P_fit3_47 : decode b_P_fit3 47 = .ok (.ireturn, 1) := by decide +kernel
theorem d_P_kept_0 : decode b_P_kept 0 = .ok (.aload_n 0, 1) := by decide +kernel
theorem d_P_kept_1 : decode b_P_kept 1 = .ok (.iload_n 1, 1) := by decide +kernel
theorem d_P_kept_2 : decode b_P_kept 2 = .ok (.iload_n 1, 1) := by decide +kernel
theorem d_P_kept_3 : decode b_P_kept 3 = .ok (.invokevirtual 38, 3) := by decide +kernel
theorem d_P_kept_6 : decode b_P_kept 6 = .ok (.aload_n 0, 1) := by decide +kernel
theorem d_P_kept_7 : decode b_P_kept 7 = .ok (.getfield 9, 3) := by decide +kernel
theorem d_P_kept_10 : decode b_P_kept 10 = .ok (.lcmp, 1) := by decide +kernel
theorem d_P_kept_11 : decode b_P_kept 11 = .ok (.ifCond .ne 26, 3) := by decide +kernel
theorem d_P_kept_14 : decode b_P_kept 14 = .ok (.aload_n 0, 1) := by decide +kernel
theorem d_P_kept_15 : decode b_P_kept 15 = .ok (.iload_n 1, 1) := by decide +kernel
theorem d_P_kept_16 : decode b_P_kept 16 = .ok (.iload_n 2, 1) := by decide +kernel
theorem d_P_kept_17 : decode b_P_kept 17 = .ok (.invokevirtual 42, 3) := by decide +kernel
theorem d_P_kept_20 : decode b_P_kept 20 = .ok (.ifCond .eq 17, 3) := by decide +kernel
theorem d_P_kept_23 : decode b_P_kept 23 = .ok (.aload_n 0, 1) := by decide +kernel
theorem d_P_kept_24 : decode b_P_kept 24 = .ok (.iload_n 1, 1) := by decide +kernel
theorem d_P_kept_25 : decode b_P_kept 25 = .ok (.iload_n 2, 1) := by decide +kernel
theorem d_P_kept_26 : decode b_P_kept 26 = .ok (.iload_n 3, 1) := by decide +kernel
theorem d_P_kept_27 : decode b_P_kept 27 = .ok (.invokevirtual 46, 3) := by decide +kernel
theorem d_P_kept_30 : decode b_P_kept 30 = .ok (.ifCond .eq 7, 3) := by decide +kernel
theorem d_P_kept_33 : decode b_P_kept 33 = .ok (.iconst 1, 1) := by decide +kernel
theorem d_P_kept_34 : decode b_P_kept 34 = .ok (.goto 4, 3) := by decide +kernel
theorem d_P_kept_37 : decode b_P_kept 37 = .ok (.iconst 0, 1) := by decide +kernel
theorem d_P_kept_38 : decode b_P_kept 38 = .ok (.ireturn, 1) := by decide +kernel
theorem d_P_thirds_0 : decode b_P_thirds 0 = .ok (.iconst 0, 1) := by decide +kernel
theorem d_P_thirds_1 : decode b_P_thirds 1 = .ok (.istore_n 3, 1) := by decide +kernel
theorem d_P_thirds_2 : decode b_P_thirds 2 = .ok (.iconst 0, 1) := by decide +kernel
theorem d_P_thirds_3 : decode b_P_thirds 3 = .ok (.istore 4, 2) := by decide +kernel
theorem d_P_thirds_5 : decode b_P_thirds 5 = .ok (.iload 4, 2) := by decide +kernel
theorem d_P_thirds_7 : decode b_P_thirds 7 = .ok (.bipush 27, 2) := by decide +kernel
theorem d_P_thirds_9 : decode b_P_thirds 9 = .ok (.if_icmp .ge 23, 3) := by decide +kernel
theorem d_P_thirds_12 : decode b_P_thirds 12 = .ok (.aload_n 0, 1) := by decide +kernel
theorem d_P_thirds_13 : decode b_P_thirds 13 = .ok (.iload_n 1, 1) := by decide +kernel
theorem d_P_thirds_14 : decode b_P_thirds 14 = .ok (.iload_n 2, 1) := by decide +kernel
theorem d_P_thirds_15 : decode b_P_thirds 15 = .ok (.iload 4, 2) := by decide +kernel
theorem d_P_thirds_17 : decode b_P_thirds 17 = .ok (.invokevirtual 46, 3) := by decide +kernel
theorem d_P_thirds_20 : decode b_P_thirds 20 = .ok (.ifCond .eq 6, 3) := by decide +kernel
theorem d_P_thirds_23 : decode b_P_thirds 23 = .ok (.iinc 3 1, 3) := by decide +kernel
theorem d_P_thirds_26 : decode b_P_thirds 26 = .ok (.iinc 4 1, 3) := by decide +kernel
theorem d_P_thirds_29 : decode b_P_thirds 29 = .ok (.goto (-24), 3) := by decide +kernel
theorem d_P_thirds_32 : decode b_P_thirds 32 = .ok (.iload_n 3, 1) := by decide +kernel
theorem d_P_thirds_33 : decode b_P_thirds 33 = .ok (.ireturn, 1) := by decide +kernel
theorem d_P_keepers_0 : decode b_P_keepers 0 = .ok (.iconst 0, 1) := by decide +kernel
theorem d_P_keepers_1 : decode b_P_keepers 1 = .ok (.istore_n 1, 1) := by decide +kernel
theorem d_P_keepers_2 : decode b_P_keepers 2 = .ok (.iconst 0, 1) := by decide +kernel
theorem d_P_keepers_3 : decode b_P_keepers 3 = .ok (.istore_n 2, 1) := by decide +kernel
theorem d_P_keepers_4 : decode b_P_keepers 4 = .ok (.iload_n 2, 1) := by decide +kernel
theorem d_P_keepers_5 : decode b_P_keepers 5 = .ok (.bipush 27, 2) := by decide +kernel
theorem d_P_keepers_7 : decode b_P_keepers 7 = .ok (.if_icmp .ge 58, 3) := by decide +kernel
theorem d_P_keepers_10 : decode b_P_keepers 10 = .ok (.aload_n 0, 1) := by decide +kernel
theorem d_P_keepers_11 : decode b_P_keepers 11 = .ok (.iload_n 2, 1) := by decide +kernel
theorem d_P_keepers_12 : decode b_P_keepers 12 = .ok (.iload_n 2, 1) := by decide +kernel
theorem d_P_keepers_13 : decode b_P_keepers 13 = .ok (.invokevirtual 38, 3) := by decide +kernel
theorem d_P_keepers_16 : decode b_P_keepers 16 = .ok (.aload_n 0, 1) := by decide +kernel
theorem d_P_keepers_17 : decode b_P_keepers 17 = .ok (.getfield 9, 3) := by decide +kernel
theorem d_P_keepers_20 : decode b_P_keepers 20 = .ok (.lcmp, 1) := by decide +kernel
theorem d_P_keepers_21 : decode b_P_keepers 21 = .ok (.ifCond .eq 6, 3) := by decide +kernel
theorem d_P_keepers_24 : decode b_P_keepers 24 = .ok (.goto 35, 3) := by decide +kernel
theorem d_P_keepers_27 : decode b_P_keepers 27 = .ok (.iconst 0, 1) := by decide +kernel
theorem d_P_keepers_28 : decode b_P_keepers 28 = .ok (.istore_n 3, 1) := by decide +kernel
theorem d_P_keepers_29 : decode b_P_keepers 29 = .ok (.iload_n 3, 1) := by decide +kernel
theorem d_P_keepers_30 : decode b_P_keepers 30 = .ok (.bipush 27, 2) := by decide +kernel
theorem d_P_keepers_32 : decode b_P_keepers 32 = .ok (.if_icmp .ge 27, 3) := by decide +kernel
theorem d_P_keepers_35 : decode b_P_keepers 35 = .ok (.aload_n 0, 1) := by decide +kernel
theorem d_P_keepers_36 : decode b_P_keepers 36 = .ok (.iload_n 2, 1) := by decide +kernel
theorem d_P_keepers_37 : decode b_P_keepers 37 = .ok (.iload_n 3, 1) := by decide +kernel
theorem d_P_keepers_38 : decode b_P_keepers 38 = .ok (.invokevirtual 42, 3) := by decide +kernel
theorem d_P_keepers_41 : decode b_P_keepers 41 = .ok (.ifCond .eq 12, 3) := by decide +kernel
theorem d_P_keepers_44 : decode b_P_keepers 44 = .ok (.iload_n 1, 1) := by decide +kernel
theorem d_P_keepers_45 : decode b_P_keepers 45 = .ok (.aload_n 0, 1) := by decide +kernel
theorem d_P_keepers_46 : decode b_P_keepers 46 = .ok (.iload_n 2, 1) := by decide +kernel
theorem d_P_keepers_47 : decode b_P_keepers 47 = .ok (.iload_n 3, 1) := by decide +kernel
theorem d_P_keepers_48 : decode b_P_keepers 48 = .ok (.invokevirtual 50, 3) := by decide +kernel
theorem d_P_keepers_51 : decode b_P_keepers 51 = .ok (.iadd, 1) := by decide +kernel
theorem d_P_keepers_52 : decode b_P_keepers 52 = .ok (.istore_n 1, 1) := by decide +kernel
theorem d_P_keepers_53 : decode b_P_keepers 53 = .ok (.iinc 3 1, 3) := by decide +kernel
theorem d_P_keepers_56 : decode b_P_keepers 56 = .ok (.goto (-27), 3) := by decide +kernel
theorem d_P_keepers_59 : decode b_P_keepers 59 = .ok (.iinc 2 1, 3) := by decide +kernel
theorem d_P_keepers_62 : decode b_P_keepers 62 = .ok (.goto (-58), 3) := by decide +kernel
theorem d_P_keepers_65 : decode b_P_keepers 65 = .ok (.iload_n 1, 1) := by decide +kernel
theorem d_P_keepers_66 : decode b_P_keepers 66 = .ok (.ireturn, 1) := by decide +kernel
theorem d_P_order_0 : decode b_P_order 0 = .ok (.iconst 0, 1) := by decide +kernel
theorem d_P_order_1 : decode b_P_order 1 = .ok (.istore_n 2, 1) := by decide +kernel
theorem d_P_order_2 : decode b_P_order 2 = .ok (.iload_n 2, 1) := by decide +kernel
theorem d_P_order_3 : decode b_P_order 3 = .ok (.bipush 6, 2) := by decide +kernel
theorem d_P_order_5 : decode b_P_order 5 = .ok (.if_icmp .ge 29, 3) := by decide +kernel
theorem d_P_order_8 : decode b_P_order 8 = .ok (.aload_n 0, 1) := by decide +kernel
theorem d_P_order_9 : decode b_P_order 9 = .ok (.iload_n 2, 1) := by decide +kernel
theorem d_P_order_10 : decode b_P_order 10 = .ok (.invokevirtual 54, 3) := by decide +kernel
theorem d_P_order_13 : decode b_P_order 13 = .ok (.aload_n 1, 1) := by decide +kernel
theorem d_P_order_14 : decode b_P_order 14 = .ok (.iload_n 2, 1) := by decide +kernel
theorem d_P_order_15 : decode b_P_order 15 = .ok (.invokevirtual 54, 3) := by decide +kernel
theorem d_P_order_18 : decode b_P_order 18 = .ok (.invokestatic 58, 3) := by decide +kernel
theorem d_P_order_21 : decode b_P_order 21 = .ok (.istore_n 3, 1) := by decide +kernel
theorem d_P_order_22 : decode b_P_order 22 = .ok (.iload_n 3, 1) := by decide +kernel
theorem d_P_order_23 : decode b_P_order 23 = .ok (.ifCond .eq 5, 3) := by decide +kernel
theorem d_P_order_26 : decode b_P_order 26 = .ok (.iload_n 3, 1) := by decide +kernel
theorem d_P_order_27 : decode b_P_order 27 = .ok (.ireturn, 1) := by decide +kernel
theorem d_P_order_28 : decode b_P_order 28 = .ok (.iinc 2 1, 3) := by decide +kernel
theorem d_P_order_31 : decode b_P_order 31 = .ok (.goto (-29), 3) := by decide +kernel
theorem d_P_order_34 : decode b_P_order 34 = .ok (.iconst 0, 1) := by decide +kernel
theorem d_P_order_35 : decode b_P_order 35 = .ok (.ireturn, 1) := by decide +kernel
theorem d_P_init_0 : decode b_P_init 0 = .ok (.aload_n 0, 1) := by decide +kernel
theorem d_P_init_1 : decode b_P_init 1 = .ok (.invokespecial 3, 3) := by decide +kernel
theorem d_P_init_4 : decode b_P_init 4 = .ok (.aload_n 0, 1) := by decide +kernel
theorem d_P_init_5 : decode b_P_init 5 = .ok (.lload_n 1, 1) := by decide +kernel
theorem d_P_init_6 : decode b_P_init 6 = .ok (.putfield 9, 3) := by decide +kernel
theorem d_P_init_9 : decode b_P_init 9 = .ok (.aload_n 0, 1) := by decide +kernel
theorem d_P_init_10 : decode b_P_init 10 = .ok (.lload_n 3, 1) := by decide +kernel
theorem d_P_init_11 : decode b_P_init 11 = .ok (.putfield 15, 3) := by decide +kernel
theorem d_P_init_14 : decode b_P_init 14 = .ok (.aload_n 0, 1) := by decide +kernel
theorem d_P_init_15 : decode b_P_init 15 = .ok (.lload 5, 2) := by decide +kernel
theorem d_P_init_17 : decode b_P_init 17 = .ok (.putfield 18, 3) := by decide +kernel
theorem d_P_init_20 : decode b_P_init 20 = .ok (.aload_n 0, 1) := by decide +kernel
theorem d_P_init_21 : decode b_P_init 21 = .ok (.lload 7, 2) := by decide +kernel
theorem d_P_init_23 : decode b_P_init 23 = .ok (.putfield 21, 3) := by decide +kernel
theorem d_P_init_26 : decode b_P_init 26 = .ok (.aload_n 0, 1) := by decide +kernel
theorem d_P_init_27 : decode b_P_init 27 = .ok (.lload 9, 2) := by decide +kernel
theorem d_P_init_29 : decode b_P_init 29 = .ok (.putfield 24, 3) := by decide +kernel
theorem d_P_init_32 : decode b_P_init 32 = .ok (.aload_n 0, 1) := by decide +kernel
theorem d_P_init_33 : decode b_P_init 33 = .ok (.lload 11, 2) := by decide +kernel
theorem d_P_init_35 : decode b_P_init 35 = .ok (.putfield 27, 3) := by decide +kernel
theorem d_P_init_38 : decode b_P_init 38 = .ok (.return_, 1) := by decide +kernel
end
section
-- CellBench$Products at (I)J
def f_P_at (fa : Int64) (fb : Int64) (fc : Int64) (fd : Int64) (fe : Int64) (ff : Int64) (wh : Int32) : Int64 :=
    if wh = (0 : Int32) then fa else (if wh = (1 : Int32) then fb else (if wh = (2 : Int32) then fc else (if wh = (3 : Int32) then fd else (if wh = (4 : Int32) then fe else (if wh = (5 : Int32) then ff else (0 : Int64))))))
def w_P_at : List Cond := .code y_P_at b_P_at 2 (some .long) :: GW
abbrev rm_P_at : Room := { frames := 0, cells := 0, slots := 0, locals := 0 }
theorem g_P_at : GoodIn GW w_P_at := gi tm_286
set_option maxHeartbeats 4000000 in
set_option maxRecDepth 100000 in
theorem c_P_at (l : Launch) (D : va_G) (ct : CT) (ws : va_W) (k0 : Nat) (h0 : Nat) (fa : Int64) (fb : Int64) (fc : Int64) (fd : Int64) (fe : Int64) (ff : Int64) (wh : Int32) (hk0 : ws[k0]? = some (h0, .inr (0, [.long fa, .long fb, .long fc, .long fd, .long fe, .long ff])))  (r0 : Int64) (h : f_P_at fa fb fc fd fe ff wh = r0) : Met l y_P_at w_P_at rm_P_at (va_Pc [.ref h0, .int wh] (PreP D ct ws)) (vp_Sl (fun r => r = r0)) 0 0 (fun _ => False) := by
  refine Met.ofW (cc := b_P_at) (maxL := 2) (ret := (some .long)) (by decide) rfl ?_
  intro p e s m args below meth c s₁ B hml hv
  obtain ⟨rfl, hP, hKK⟩ := hv
  have hx := B.exec
  have hb := B.bytes
  have hr := B.returns
  have htg := ht_tl (atoms_spec (ws := w_P_at) B.pre)
  have hown : s.vm.findClass R_Products = some m.cls := findClass_of_methodNamed B.named
  have hlocks := B.notSynchronized
  have hK := hKK.1
  have hN := hKK.2.1
  have hO := hKK.2.2
  have hl := lv_entry ([.ref h0, .int wh]) (n := 2) (Nat.le_of_ble_eq_true rfl)
  rw [lg_entry_eq]
  generalize (lg_sl ([.ref h0, .int wh]) ++ List.replicate (2 - (lg_sl ([.ref h0, .int wh])).length) Slot.unset).toArray = ls at hl ⊢
  have hl : lv_has ls 2 [(0, .ref h0), (1, .int wh)] := hl
  unfold f_P_at at h
  refine lv_iload_n hx hb d_P_at_0 rfl (lv_at hl 1 rfl) ?_
  by_cases c_1 : wh = (0 : Int32)
  · rw [if_pos c_1] at h
    refine lv_tableIn (off := 39) (tgt := 40) hx hb d_P_at_1 (by rw [c_1]; decide) (by rw [c_1]; decide) (by rw [c_1]; rfl) (by decide) ?_
    refine lv_aload_n hx hb d_P_at_40 rfl (lv_at hl 0 rfl) ?_
    refine va_get (D := D) (ci := 0) (v := .long fa) (C := R_Products) (T := F_Products) (N := 6) hx hb htg i_Products hown hK hP k0 hk0 rfl 0 (by decide) (htg _ tm_133) (fun _ h9 => h9) rfl d_P_at_41 ?_
    exact W.lret (v := fa) hx hb hr (fun t ht hW => ⟨fa, rfl, h, ht⟩) (fun q h => by cases h) d_P_at_44
  rw [if_neg c_1] at h
  by_cases c_2 : wh = (1 : Int32)
  · rw [if_pos c_2] at h
    refine lv_tableIn (off := 44) (tgt := 45) hx hb d_P_at_1 (by rw [c_2]; decide) (by rw [c_2]; decide) (by rw [c_2]; rfl) (by decide) ?_
    refine lv_aload_n hx hb d_P_at_45 rfl (lv_at hl 0 rfl) ?_
    refine va_get (D := D) (ci := 0) (v := .long fb) (C := R_Products) (T := F_Products) (N := 6) hx hb htg i_Products hown hK hP k0 hk0 rfl 1 (by decide) (htg _ tm_135) (fun _ h9 => h9) rfl d_P_at_46 ?_
    exact W.lret (v := fb) hx hb hr (fun t ht hW => ⟨fb, rfl, h, ht⟩) (fun q h => by cases h) d_P_at_49
  rw [if_neg c_2] at h
  by_cases c_3 : wh = (2 : Int32)
  · rw [if_pos c_3] at h
    refine lv_tableIn (off := 49) (tgt := 50) hx hb d_P_at_1 (by rw [c_3]; decide) (by rw [c_3]; decide) (by rw [c_3]; rfl) (by decide) ?_
    refine lv_aload_n hx hb d_P_at_50 rfl (lv_at hl 0 rfl) ?_
    refine va_get (D := D) (ci := 0) (v := .long fc) (C := R_Products) (T := F_Products) (N := 6) hx hb htg i_Products hown hK hP k0 hk0 rfl 2 (by decide) (htg _ tm_137) (fun _ h9 => h9) rfl d_P_at_51 ?_
    exact W.lret (v := fc) hx hb hr (fun t ht hW => ⟨fc, rfl, h, ht⟩) (fun q h => by cases h) d_P_at_54
  rw [if_neg c_3] at h
  by_cases c_4 : wh = (3 : Int32)
  · rw [if_pos c_4] at h
    refine lv_tableIn (off := 54) (tgt := 55) hx hb d_P_at_1 (by rw [c_4]; decide) (by rw [c_4]; decide) (by rw [c_4]; rfl) (by decide) ?_
    refine lv_aload_n hx hb d_P_at_55 rfl (lv_at hl 0 rfl) ?_
    refine va_get (D := D) (ci := 0) (v := .long fd) (C := R_Products) (T := F_Products) (N := 6) hx hb htg i_Products hown hK hP k0 hk0 rfl 3 (by decide) (htg _ tm_139) (fun _ h9 => h9) rfl d_P_at_56 ?_
    exact W.lret (v := fd) hx hb hr (fun t ht hW => ⟨fd, rfl, h, ht⟩) (fun q h => by cases h) d_P_at_59
  rw [if_neg c_4] at h
  by_cases c_5 : wh = (4 : Int32)
  · rw [if_pos c_5] at h
    refine lv_tableIn (off := 59) (tgt := 60) hx hb d_P_at_1 (by rw [c_5]; decide) (by rw [c_5]; decide) (by rw [c_5]; rfl) (by decide) ?_
    refine lv_aload_n hx hb d_P_at_60 rfl (lv_at hl 0 rfl) ?_
    refine va_get (D := D) (ci := 0) (v := .long fe) (C := R_Products) (T := F_Products) (N := 6) hx hb htg i_Products hown hK hP k0 hk0 rfl 4 (by decide) (htg _ tm_141) (fun _ h9 => h9) rfl d_P_at_61 ?_
    exact W.lret (v := fe) hx hb hr (fun t ht hW => ⟨fe, rfl, h, ht⟩) (fun q h => by cases h) d_P_at_64
  rw [if_neg c_5] at h
  by_cases c_6 : wh = (5 : Int32)
  · rw [if_pos c_6] at h
    refine lv_tableIn (off := 64) (tgt := 65) hx hb d_P_at_1 (by rw [c_6]; decide) (by rw [c_6]; decide) (by rw [c_6]; rfl) (by decide) ?_
    refine lv_aload_n hx hb d_P_at_65 rfl (lv_at hl 0 rfl) ?_
    refine va_get (D := D) (ci := 0) (v := .long ff) (C := R_Products) (T := F_Products) (N := 6) hx hb htg i_Products hown hK hP k0 hk0 rfl 5 (by decide) (htg _ tm_143) (fun _ h9 => h9) rfl d_P_at_66 ?_
    exact W.lret (v := ff) hx hb hr (fun t ht hW => ⟨ff, rfl, h, ht⟩) (fun q h => by cases h) d_P_at_69
  rw [if_neg c_6] at h
  refine lv_tableOut (tgt := 70) hx hb d_P_at_1 (by have z0 := lv_neT (a := 0) c_1 (by decide); have z1 := lv_neT (a := 1) c_2 (by decide); have z2 := lv_neT (a := 2) c_3 (by decide); have z3 := lv_neT (a := 3) c_4 (by decide); have z4 := lv_neT (a := 4) c_5 (by decide); have z5 := lv_neT (a := 5) c_6 (by decide); omega) (by decide) ?_
  refine lv_lconst (v := (0 : Int64)) hx hb d_P_at_70 (by decide) ?_
  exact W.lret (v := (0 : Int64)) hx hb hr (fun t ht hW => ⟨(0 : Int64), rfl, h, ht⟩) (fun q h => by cases h) d_P_at_71
-- CellBench$Products determinant ()J
def f_P_det (fa : Int64) (fb : Int64) (fc : Int64) (fd : Int64) (fe : Int64) (ff : Int64) : Int64 :=
    ((fa * ((fb * fc) - (fd * fd))) - (ff * ((ff * fc) - (fd * fe)))) + (fe * ((ff * fd) - (fb * fe)))
def w_P_det : List Cond := .code y_P_det b_P_det 1 (some .long) :: GW
abbrev rm_P_det : Room := { frames := 0, cells := 0, slots := 0, locals := 0 }
theorem g_P_det : GoodIn GW w_P_det := gi tm_165
set_option maxHeartbeats 4000000 in
set_option maxRecDepth 100000 in
theorem c_P_det (l : Launch) (D : va_G) (ct : CT) (ws : va_W) (k0 : Nat) (h0 : Nat) (fa : Int64) (fb : Int64) (fc : Int64) (fd : Int64) (fe : Int64) (ff : Int64) (hk0 : ws[k0]? = some (h0, .inr (0, [.long fa, .long fb, .long fc, .long fd, .long fe, .long ff])))  (r0 : Int64) (h : f_P_det fa fb fc fd fe ff = r0) : Met l y_P_det w_P_det rm_P_det (va_Pc [.ref h0] (PreP D ct ws)) (vp_Sl (fun r => r = r0)) 0 0 (fun _ => False) := by
  refine Met.ofW (cc := b_P_det) (maxL := 1) (ret := (some .long)) (by decide) rfl ?_
  intro p e s m args below meth c s₁ B hml hv
  obtain ⟨rfl, hP, hKK⟩ := hv
  have hx := B.exec
  have hb := B.bytes
  have hr := B.returns
  have htg := ht_tl (atoms_spec (ws := w_P_det) B.pre)
  have hown : s.vm.findClass R_Products = some m.cls := findClass_of_methodNamed B.named
  have hlocks := B.notSynchronized
  have hK := hKK.1
  have hN := hKK.2.1
  have hO := hKK.2.2
  have hl := lv_entry ([.ref h0]) (n := 1) (Nat.le_of_ble_eq_true rfl)
  rw [lg_entry_eq]
  generalize (lg_sl ([.ref h0]) ++ List.replicate (1 - (lg_sl ([.ref h0])).length) Slot.unset).toArray = ls at hl ⊢
  have hl : lv_has ls 1 [(0, .ref h0)] := hl
  unfold f_P_det at h
  refine lv_aload_n hx hb d_P_det_0 rfl (lv_at hl 0 rfl) ?_
  refine va_get (D := D) (ci := 0) (v := .long fa) (C := R_Products) (T := F_Products) (N := 6) hx hb htg i_Products hown hK hP k0 hk0 rfl 0 (by decide) (htg _ tm_133) (fun _ h9 => h9) rfl d_P_det_1 ?_
  refine lv_aload_n hx hb d_P_det_4 rfl (lv_at hl 0 rfl) ?_
  refine va_get (D := D) (ci := 0) (v := .long fb) (C := R_Products) (T := F_Products) (N := 6) hx hb htg i_Products hown hK hP k0 hk0 rfl 1 (by decide) (htg _ tm_135) (fun _ h9 => h9) rfl d_P_det_5 ?_
  refine lv_aload_n hx hb d_P_det_8 rfl (lv_at hl 0 rfl) ?_
  refine va_get (D := D) (ci := 0) (v := .long fc) (C := R_Products) (T := F_Products) (N := 6) hx hb htg i_Products hown hK hP k0 hk0 rfl 2 (by decide) (htg _ tm_137) (fun _ h9 => h9) rfl d_P_det_9 ?_
  refine lv_lmul hx hb d_P_det_12 ?_
  refine lv_aload_n hx hb d_P_det_13 rfl (lv_at hl 0 rfl) ?_
  refine va_get (D := D) (ci := 0) (v := .long fd) (C := R_Products) (T := F_Products) (N := 6) hx hb htg i_Products hown hK hP k0 hk0 rfl 3 (by decide) (htg _ tm_139) (fun _ h9 => h9) rfl d_P_det_14 ?_
  refine lv_aload_n hx hb d_P_det_17 rfl (lv_at hl 0 rfl) ?_
  refine va_get (D := D) (ci := 0) (v := .long fd) (C := R_Products) (T := F_Products) (N := 6) hx hb htg i_Products hown hK hP k0 hk0 rfl 3 (by decide) (htg _ tm_139) (fun _ h9 => h9) rfl d_P_det_18 ?_
  refine lv_lmul hx hb d_P_det_21 ?_
  refine lv_lsub hx hb d_P_det_22 ?_
  refine lv_lmul hx hb d_P_det_23 ?_
  refine lv_aload_n hx hb d_P_det_24 rfl (lv_at hl 0 rfl) ?_
  refine va_get (D := D) (ci := 0) (v := .long ff) (C := R_Products) (T := F_Products) (N := 6) hx hb htg i_Products hown hK hP k0 hk0 rfl 5 (by decide) (htg _ tm_143) (fun _ h9 => h9) rfl d_P_det_25 ?_
  refine lv_aload_n hx hb d_P_det_28 rfl (lv_at hl 0 rfl) ?_
  refine va_get (D := D) (ci := 0) (v := .long ff) (C := R_Products) (T := F_Products) (N := 6) hx hb htg i_Products hown hK hP k0 hk0 rfl 5 (by decide) (htg _ tm_143) (fun _ h9 => h9) rfl d_P_det_29 ?_
  refine lv_aload_n hx hb d_P_det_32 rfl (lv_at hl 0 rfl) ?_
  refine va_get (D := D) (ci := 0) (v := .long fc) (C := R_Products) (T := F_Products) (N := 6) hx hb htg i_Products hown hK hP k0 hk0 rfl 2 (by decide) (htg _ tm_137) (fun _ h9 => h9) rfl d_P_det_33 ?_
  refine lv_lmul hx hb d_P_det_36 ?_
  refine lv_aload_n hx hb d_P_det_37 rfl (lv_at hl 0 rfl) ?_
  refine va_get (D := D) (ci := 0) (v := .long fd) (C := R_Products) (T := F_Products) (N := 6) hx hb htg i_Products hown hK hP k0 hk0 rfl 3 (by decide) (htg _ tm_139) (fun _ h9 => h9) rfl d_P_det_38 ?_
  refine lv_aload_n hx hb d_P_det_41 rfl (lv_at hl 0 rfl) ?_
  refine va_get (D := D) (ci := 0) (v := .long fe) (C := R_Products) (T := F_Products) (N := 6) hx hb htg i_Products hown hK hP k0 hk0 rfl 4 (by decide) (htg _ tm_141) (fun _ h9 => h9) rfl d_P_det_42 ?_
  refine lv_lmul hx hb d_P_det_45 ?_
  refine lv_lsub hx hb d_P_det_46 ?_
  refine lv_lmul hx hb d_P_det_47 ?_
  refine lv_lsub hx hb d_P_det_48 ?_
  refine lv_aload_n hx hb d_P_det_49 rfl (lv_at hl 0 rfl) ?_
  refine va_get (D := D) (ci := 0) (v := .long fe) (C := R_Products) (T := F_Products) (N := 6) hx hb htg i_Products hown hK hP k0 hk0 rfl 4 (by decide) (htg _ tm_141) (fun _ h9 => h9) rfl d_P_det_50 ?_
  refine lv_aload_n hx hb d_P_det_53 rfl (lv_at hl 0 rfl) ?_
  refine va_get (D := D) (ci := 0) (v := .long ff) (C := R_Products) (T := F_Products) (N := 6) hx hb htg i_Products hown hK hP k0 hk0 rfl 5 (by decide) (htg _ tm_143) (fun _ h9 => h9) rfl d_P_det_54 ?_
  refine lv_aload_n hx hb d_P_det_57 rfl (lv_at hl 0 rfl) ?_
  refine va_get (D := D) (ci := 0) (v := .long fd) (C := R_Products) (T := F_Products) (N := 6) hx hb htg i_Products hown hK hP k0 hk0 rfl 3 (by decide) (htg _ tm_139) (fun _ h9 => h9) rfl d_P_det_58 ?_
  refine lv_lmul hx hb d_P_det_61 ?_
  refine lv_aload_n hx hb d_P_det_62 rfl (lv_at hl 0 rfl) ?_
  refine va_get (D := D) (ci := 0) (v := .long fb) (C := R_Products) (T := F_Products) (N := 6) hx hb htg i_Products hown hK hP k0 hk0 rfl 1 (by decide) (htg _ tm_135) (fun _ h9 => h9) rfl d_P_det_63 ?_
  refine lv_aload_n hx hb d_P_det_66 rfl (lv_at hl 0 rfl) ?_
  refine va_get (D := D) (ci := 0) (v := .long fe) (C := R_Products) (T := F_Products) (N := 6) hx hb htg i_Products hown hK hP k0 hk0 rfl 4 (by decide) (htg _ tm_141) (fun _ h9 => h9) rfl d_P_det_67 ?_
  refine lv_lmul hx hb d_P_det_70 ?_
  refine lv_lsub hx hb d_P_det_71 ?_
  refine lv_lmul hx hb d_P_det_72 ?_
  refine lv_ladd hx hb d_P_det_73 ?_
  exact W.lret (v := ((fa * ((fb * fc) - (fd * fd))) - (ff * ((ff * fc) - (fd * fe)))) + (fe * ((ff * fd) - (fb * fe)))) hx hb hr (fun t ht hW => ⟨((fa * ((fb * fc) - (fd * fd))) - (ff * ((ff * fc) - (fd * fe)))) + (fe * ((ff * fd) - (fb * fe))), rfl, h, ht⟩) (fun q h => by cases h) d_P_det_74
-- CellBench$Products spanASpace ()Z
def f_P_span (fa : Int64) (fb : Int64) (fc : Int64) (fd : Int64) (fe : Int64) (ff : Int64) : Int32 :=
    if (lg_cmp ((fa * fb) - (ff * ff)) (0 : Int64)) ≤ 0 then (0 : Int32) else (if (lg_cmp (f_P_det fa fb fc fd fe ff) (0 : Int64)) ≤ 0 then (0 : Int32) else (1 : Int32))
def w_P_span : List Cond := .code y_P_span b_P_span 1 (some .boolean) :: GW
abbrev rm_P_span : Room := { frames := 1, cells := 0, slots := 0, locals := 20 }
theorem g_P_span : GoodIn GW w_P_span := gi tm_161
set_option maxHeartbeats 4000000 in
set_option maxRecDepth 100000 in
theorem c_P_span (l : Launch) (D : va_G) (ct : CT) (ws : va_W) (k0 : Nat) (h0 : Nat) (fa : Int64) (fb : Int64) (fc : Int64) (fd : Int64) (fe : Int64) (ff : Int64) (hk0 : ws[k0]? = some (h0, .inr (0, [.long fa, .long fb, .long fc, .long fd, .long fe, .long ff])))  (r0 : Int32) (h : f_P_span fa fb fc fd fe ff = r0) : Met l y_P_span w_P_span rm_P_span (va_Pc [.ref h0] (PreP D ct ws)) (vp_Si (fun r => r = r0)) 0 0 (fun _ => False) := by
  refine Met.ofW (cc := b_P_span) (maxL := 1) (ret := (some .boolean)) (by decide) rfl ?_
  intro p e s m args below meth c s₁ B hml hv
  obtain ⟨rfl, hP, hKK⟩ := hv
  have hx := B.exec
  have hb := B.bytes
  have hr := B.returns
  have htg := ht_tl (atoms_spec (ws := w_P_span) B.pre)
  have hown : s.vm.findClass R_Products = some m.cls := findClass_of_methodNamed B.named
  have hlocks := B.notSynchronized
  have hK := hKK.1
  have hN := hKK.2.1
  have hO := hKK.2.2
  have hl := lv_entry ([.ref h0]) (n := 1) (Nat.le_of_ble_eq_true rfl)
  rw [lg_entry_eq]
  generalize (lg_sl ([.ref h0]) ++ List.replicate (1 - (lg_sl ([.ref h0])).length) Slot.unset).toArray = ls at hl ⊢
  have hl : lv_has ls 1 [(0, .ref h0)] := hl
  unfold f_P_span at h
  refine lv_aload_n hx hb d_P_span_0 rfl (lv_at hl 0 rfl) ?_
  refine va_get (D := D) (ci := 0) (v := .long fa) (C := R_Products) (T := F_Products) (N := 6) hx hb htg i_Products hown hK hP k0 hk0 rfl 0 (by decide) (htg _ tm_133) (fun _ h9 => h9) rfl d_P_span_1 ?_
  refine lv_aload_n hx hb d_P_span_4 rfl (lv_at hl 0 rfl) ?_
  refine va_get (D := D) (ci := 0) (v := .long fb) (C := R_Products) (T := F_Products) (N := 6) hx hb htg i_Products hown hK hP k0 hk0 rfl 1 (by decide) (htg _ tm_135) (fun _ h9 => h9) rfl d_P_span_5 ?_
  refine lv_lmul hx hb d_P_span_8 ?_
  refine lv_aload_n hx hb d_P_span_9 rfl (lv_at hl 0 rfl) ?_
  refine va_get (D := D) (ci := 0) (v := .long ff) (C := R_Products) (T := F_Products) (N := 6) hx hb htg i_Products hown hK hP k0 hk0 rfl 5 (by decide) (htg _ tm_143) (fun _ h9 => h9) rfl d_P_span_10 ?_
  refine lv_aload_n hx hb d_P_span_13 rfl (lv_at hl 0 rfl) ?_
  refine va_get (D := D) (ci := 0) (v := .long ff) (C := R_Products) (T := F_Products) (N := 6) hx hb htg i_Products hown hK hP k0 hk0 rfl 5 (by decide) (htg _ tm_143) (fun _ h9 => h9) rfl d_P_span_14 ?_
  refine lv_lmul hx hb d_P_span_17 ?_
  refine lv_lsub hx hb d_P_span_18 ?_
  refine lv_lconst (v := (0 : Int64)) hx hb d_P_span_19 (by decide) ?_
  refine W.lcmp hx hb d_P_span_20 ?_
  refine lv_if_le (tgt := 37) hx hb d_P_span_21 (by decide) (fun c_1 => ?_) (fun c_1 => ?_)
  · rw [if_pos c_1] at h
    refine lv_iconst (v := (0 : Int32)) hx hb d_P_span_37 (by decide) ?_
    exact W.zret (v := (0 : Int32)) (ty := .boolean) hx hb hr rfl (fun t ht hW => ⟨(0 : Int32), rfl, h, ht⟩) (fun q h => by cases h) d_P_span_38
  · rw [if_neg c_1] at h
    refine lv_aload_n hx hb d_P_span_24 rfl (lv_at hl 0 rfl) ?_
    refine vp_callSl (va_Run.run (va_runV (As := []) (rest := []) ⟨hx, hb, hml, hown, htg⟩ (c_P_det l D ct ws k0 h0 fa fb fc fd fe ff hk0  _ rfl) (cwV 0 htg (giV tm_162 tm_163 tm_164 tm_35 g_P_det) rfl rfl rfl (by decide +kernel) ⟨Nat.le_of_ble_eq_true rfl, Nat.le_of_ble_eq_true rfl⟩) (preV hP hKK (va_recv hK hP (ci := 0) (q0 := k0) rfl hk0)) rfl rfl hl.1 rfl (lv_room (Nat.le_of_ble_eq_true rfl)) d_P_span_25 ⟨Nat.le_of_ble_eq_true rfl, Nat.le_of_ble_eq_true rfl⟩)) (fun r9 hr9 => ?_)
    subst hr9
    refine lv_lconst (v := (0 : Int64)) hx hb d_P_span_28 (by decide) ?_
    refine W.lcmp hx hb d_P_span_29 ?_
    refine lv_if_le (tgt := 37) hx hb d_P_span_30 (by decide) (fun c_2 => ?_) (fun c_2 => ?_)
    · rw [if_pos c_2] at h
      refine lv_iconst (v := (0 : Int32)) hx hb d_P_span_37 (by decide) ?_
      exact W.zret (v := (0 : Int32)) (ty := .boolean) hx hb hr rfl (fun t ht hW => ⟨(0 : Int32), rfl, h, ht⟩) (fun q h => by cases h) d_P_span_38
    · rw [if_neg c_2] at h
      refine lv_iconst (v := (1 : Int32)) hx hb d_P_span_33 (by decide) ?_
      refine lv_goto (tgt := 38) hx hb d_P_span_34 (by decide) ?_
      exact W.zret (v := (1 : Int32)) (ty := .boolean) hx hb hr rfl (fun t ht hW => ⟨(1 : Int32), rfl, h, ht⟩) (fun q h => by cases h) d_P_span_38
-- CellBench$Products product (JJJJJJ)J
def f_P_prod (fa : Int64) (fb : Int64) (fc : Int64) (fd : Int64) (fe : Int64) (ff : Int64) (px : Int64) (py : Int64) (pz : Int64) (qx : Int64) (qy : Int64) (qz : Int64) : Int64 :=
    ((((((fa * px) * qx) + ((fb * py) * qy)) + ((fc * pz) * qz)) + (fd * ((py * qz) + (pz * qy)))) + (fe * ((px * qz) + (pz * qx)))) + (ff * ((px * qy) + (py * qx)))
def w_P_prod : List Cond := .code y_P_prod b_P_prod 13 (some .long) :: GW
abbrev rm_P_prod : Room := { frames := 0, cells := 0, slots := 0, locals := 0 }
theorem g_P_prod : GoodIn GW w_P_prod := gi tm_236
set_option maxHeartbeats 4000000 in
set_option maxRecDepth 100000 in
theorem c_P_prod (l : Launch) (D : va_G) (ct : CT) (ws : va_W) (k0 : Nat) (h0 : Nat) (fa : Int64) (fb : Int64) (fc : Int64) (fd : Int64) (fe : Int64) (ff : Int64) (px : Int64) (py : Int64) (pz : Int64) (qx : Int64) (qy : Int64) (qz : Int64) (hk0 : ws[k0]? = some (h0, .inr (0, [.long fa, .long fb, .long fc, .long fd, .long fe, .long ff])))  (r0 : Int64) (h : f_P_prod fa fb fc fd fe ff px py pz qx qy qz = r0) : Met l y_P_prod w_P_prod rm_P_prod (va_Pc [.ref h0, .long px, .long py, .long pz, .long qx, .long qy, .long qz] (PreP D ct ws)) (vp_Sl (fun r => r = r0)) 0 0 (fun _ => False) := by
  refine Met.ofW (cc := b_P_prod) (maxL := 13) (ret := (some .long)) (by decide) rfl ?_
  intro p e s m args below meth c s₁ B hml hv
  obtain ⟨rfl, hP, hKK⟩ := hv
  have hx := B.exec
  have hb := B.bytes
  have hr := B.returns
  have htg := ht_tl (atoms_spec (ws := w_P_prod) B.pre)
  have hown : s.vm.findClass R_Products = some m.cls := findClass_of_methodNamed B.named
  have hlocks := B.notSynchronized
  have hK := hKK.1
  have hN := hKK.2.1
  have hO := hKK.2.2
  have hl := lv_entry ([.ref h0, .long px, .long py, .long pz, .long qx, .long qy, .long qz]) (n := 13) (Nat.le_of_ble_eq_true rfl)
  rw [lg_entry_eq]
  generalize (lg_sl ([.ref h0, .long px, .long py, .long pz, .long qx, .long qy, .long qz]) ++ List.replicate (13 - (lg_sl ([.ref h0, .long px, .long py, .long pz, .long qx, .long qy, .long qz])).length) Slot.unset).toArray = ls at hl ⊢
  have hl : lv_has ls 13 [(0, .ref h0), (1, .long px), (3, .long py), (5, .long pz), (7, .long qx), (9, .long qy), (11, .long qz)] := hl
  unfold f_P_prod at h
  refine lv_aload_n hx hb d_P_prod_0 rfl (lv_at hl 0 rfl) ?_
  refine va_get (D := D) (ci := 0) (v := .long fa) (C := R_Products) (T := F_Products) (N := 6) hx hb htg i_Products hown hK hP k0 hk0 rfl 0 (by decide) (htg _ tm_133) (fun _ h9 => h9) rfl d_P_prod_1 ?_
  refine lv_lload_n hx hb d_P_prod_4 rfl (lv_at hl 1 rfl) ?_
  refine lv_lmul hx hb d_P_prod_5 ?_
  refine lv_lload hx hb d_P_prod_6 (lv_at hl 4 rfl) ?_
  refine lv_lmul hx hb d_P_prod_8 ?_
  refine lv_aload_n hx hb d_P_prod_9 rfl (lv_at hl 0 rfl) ?_
  refine va_get (D := D) (ci := 0) (v := .long fb) (C := R_Products) (T := F_Products) (N := 6) hx hb htg i_Products hown hK hP k0 hk0 rfl 1 (by decide) (htg _ tm_135) (fun _ h9 => h9) rfl d_P_prod_10 ?_
  refine lv_lload_n hx hb d_P_prod_13 rfl (lv_at hl 2 rfl) ?_
  refine lv_lmul hx hb d_P_prod_14 ?_
  refine lv_lload hx hb d_P_prod_15 (lv_at hl 5 rfl) ?_
  refine lv_lmul hx hb d_P_prod_17 ?_
  refine lv_ladd hx hb d_P_prod_18 ?_
  refine lv_aload_n hx hb d_P_prod_19 rfl (lv_at hl 0 rfl) ?_
  refine va_get (D := D) (ci := 0) (v := .long fc) (C := R_Products) (T := F_Products) (N := 6) hx hb htg i_Products hown hK hP k0 hk0 rfl 2 (by decide) (htg _ tm_137) (fun _ h9 => h9) rfl d_P_prod_20 ?_
  refine lv_lload hx hb d_P_prod_23 (lv_at hl 3 rfl) ?_
  refine lv_lmul hx hb d_P_prod_25 ?_
  refine lv_lload hx hb d_P_prod_26 (lv_at hl 6 rfl) ?_
  refine lv_lmul hx hb d_P_prod_28 ?_
  refine lv_ladd hx hb d_P_prod_29 ?_
  refine lv_aload_n hx hb d_P_prod_30 rfl (lv_at hl 0 rfl) ?_
  refine va_get (D := D) (ci := 0) (v := .long fd) (C := R_Products) (T := F_Products) (N := 6) hx hb htg i_Products hown hK hP k0 hk0 rfl 3 (by decide) (htg _ tm_139) (fun _ h9 => h9) rfl d_P_prod_31 ?_
  refine lv_lload_n hx hb d_P_prod_34 rfl (lv_at hl 2 rfl) ?_
  refine lv_lload hx hb d_P_prod_35 (lv_at hl 6 rfl) ?_
  refine lv_lmul hx hb d_P_prod_37 ?_
  refine lv_lload hx hb d_P_prod_38 (lv_at hl 3 rfl) ?_
  refine lv_lload hx hb d_P_prod_40 (lv_at hl 5 rfl) ?_
  refine lv_lmul hx hb d_P_prod_42 ?_
  refine lv_ladd hx hb d_P_prod_43 ?_
  refine lv_lmul hx hb d_P_prod_44 ?_
  refine lv_ladd hx hb d_P_prod_45 ?_
  refine lv_aload_n hx hb d_P_prod_46 rfl (lv_at hl 0 rfl) ?_
  refine va_get (D := D) (ci := 0) (v := .long fe) (C := R_Products) (T := F_Products) (N := 6) hx hb htg i_Products hown hK hP k0 hk0 rfl 4 (by decide) (htg _ tm_141) (fun _ h9 => h9) rfl d_P_prod_47 ?_
  refine lv_lload_n hx hb d_P_prod_50 rfl (lv_at hl 1 rfl) ?_
  refine lv_lload hx hb d_P_prod_51 (lv_at hl 6 rfl) ?_
  refine lv_lmul hx hb d_P_prod_53 ?_
  refine lv_lload hx hb d_P_prod_54 (lv_at hl 3 rfl) ?_
  refine lv_lload hx hb d_P_prod_56 (lv_at hl 4 rfl) ?_
  refine lv_lmul hx hb d_P_prod_58 ?_
  refine lv_ladd hx hb d_P_prod_59 ?_
  refine lv_lmul hx hb d_P_prod_60 ?_
  refine lv_ladd hx hb d_P_prod_61 ?_
  refine lv_aload_n hx hb d_P_prod_62 rfl (lv_at hl 0 rfl) ?_
  refine va_get (D := D) (ci := 0) (v := .long ff) (C := R_Products) (T := F_Products) (N := 6) hx hb htg i_Products hown hK hP k0 hk0 rfl 5 (by decide) (htg _ tm_143) (fun _ h9 => h9) rfl d_P_prod_63 ?_
  refine lv_lload_n hx hb d_P_prod_66 rfl (lv_at hl 1 rfl) ?_
  refine lv_lload hx hb d_P_prod_67 (lv_at hl 5 rfl) ?_
  refine lv_lmul hx hb d_P_prod_69 ?_
  refine lv_lload_n hx hb d_P_prod_70 rfl (lv_at hl 2 rfl) ?_
  refine lv_lload hx hb d_P_prod_71 (lv_at hl 4 rfl) ?_
  refine lv_lmul hx hb d_P_prod_73 ?_
  refine lv_ladd hx hb d_P_prod_74 ?_
  refine lv_lmul hx hb d_P_prod_75 ?_
  refine lv_ladd hx hb d_P_prod_76 ?_
  exact W.lret (v := ((((((fa * px) * qx) + ((fb * py) * qy)) + ((fc * pz) * qz)) + (fd * ((py * qz) + (pz * qy)))) + (fe * ((px * qz) + (pz * qx)))) + (ff * ((px * qy) + (py * qx)))) hx hb hr (fun t ht hW => ⟨((((((fa * px) * qx) + ((fb * py) * qy)) + ((fc * pz) * qz)) + (fd * ((py * qz) + (pz * qy)))) + (fe * ((px * qz) + (pz * qx)))) + (ff * ((px * qy) + (py * qx))), rfl, h, ht⟩) (fun q h => by cases h) d_P_prod_77
-- CellBench$Products columnProduct (II)J
def f_P_colp (fa : Int64) (fb : Int64) (fc : Int64) (fd : Int64) (fe : Int64) (ff : Int64) (lf : Int32) (rg : Int32) : Int64 :=
    f_P_prod fa fb fc fd fe ff ((((lf / (9 : Int32)) - (lf / (9 : Int32)) / (3 : Int32) * (3 : Int32)) - (1 : Int32)).toInt64) ((((lf / (3 : Int32)) - (lf / (3 : Int32)) / (3 : Int32) * (3 : Int32)) - (1 : Int32)).toInt64) (((lf - lf / (3 : Int32) * (3 : Int32)) - (1 : Int32)).toInt64) ((((rg / (9 : Int32)) - (rg / (9 : Int32)) / (3 : Int32) * (3 : Int32)) - (1 : Int32)).toInt64) ((((rg / (3 : Int32)) - (rg / (3 : Int32)) / (3 : Int32) * (3 : Int32)) - (1 : Int32)).toInt64) (((rg - rg / (3 : Int32) * (3 : Int32)) - (1 : Int32)).toInt64)
def w_P_colp : List Cond := .code y_P_colp b_P_colp 3 (some .long) :: GW
abbrev rm_P_colp : Room := { frames := 1, cells := 0, slots := 0, locals := 32 }
theorem g_P_colp : GoodIn GW w_P_colp := gi tm_232
set_option maxHeartbeats 4000000 in
set_option maxRecDepth 100000 in
theorem c_P_colp (l : Launch) (D : va_G) (ct : CT) (ws : va_W) (k0 : Nat) (h0 : Nat) (fa : Int64) (fb : Int64) (fc : Int64) (fd : Int64) (fe : Int64) (ff : Int64) (lf : Int32) (rg : Int32) (hk0 : ws[k0]? = some (h0, .inr (0, [.long fa, .long fb, .long fc, .long fd, .long fe, .long ff])))  (r0 : Int64) (h : f_P_colp fa fb fc fd fe ff lf rg = r0) : Met l y_P_colp w_P_colp rm_P_colp (va_Pc [.ref h0, .int lf, .int rg] (PreP D ct ws)) (vp_Sl (fun r => r = r0)) 0 0 (fun _ => False) := by
  refine Met.ofW (cc := b_P_colp) (maxL := 3) (ret := (some .long)) (by decide) rfl ?_
  intro p e s m args below meth c s₁ B hml hv
  obtain ⟨rfl, hP, hKK⟩ := hv
  have hx := B.exec
  have hb := B.bytes
  have hr := B.returns
  have htg := ht_tl (atoms_spec (ws := w_P_colp) B.pre)
  have hown : s.vm.findClass R_Products = some m.cls := findClass_of_methodNamed B.named
  have hlocks := B.notSynchronized
  have hK := hKK.1
  have hN := hKK.2.1
  have hO := hKK.2.2
  have hl := lv_entry ([.ref h0, .int lf, .int rg]) (n := 3) (Nat.le_of_ble_eq_true rfl)
  rw [lg_entry_eq]
  generalize (lg_sl ([.ref h0, .int lf, .int rg]) ++ List.replicate (3 - (lg_sl ([.ref h0, .int lf, .int rg])).length) Slot.unset).toArray = ls at hl ⊢
  have hl : lv_has ls 3 [(0, .ref h0), (1, .int lf), (2, .int rg)] := hl
  unfold f_P_colp at h
  refine lv_aload_n hx hb d_P_colp_0 rfl (lv_at hl 0 rfl) ?_
  refine lv_iload_n hx hb d_P_colp_1 rfl (lv_at hl 1 rfl) ?_
  refine lv_bipush (v := (9 : Int32)) hx hb d_P_colp_2 (by decide) ?_
  refine lv_idiv hx hb d_P_colp_4 (by decide) ?_
  refine lv_iconst (v := (3 : Int32)) hx hb d_P_colp_5 (by decide) ?_
  refine lv_irem hx hb d_P_colp_6 (by decide) ?_
  refine lv_iconst (v := (1 : Int32)) hx hb d_P_colp_7 (by decide) ?_
  refine lv_isub hx hb d_P_colp_8 ?_
  refine lv_i2l hx hb d_P_colp_9 rfl ?_
  refine lv_iload_n hx hb d_P_colp_10 rfl (lv_at hl 1 rfl) ?_
  refine lv_iconst (v := (3 : Int32)) hx hb d_P_colp_11 (by decide) ?_
  refine lv_idiv hx hb d_P_colp_12 (by decide) ?_
  refine lv_iconst (v := (3 : Int32)) hx hb d_P_colp_13 (by decide) ?_
  refine lv_irem hx hb d_P_colp_14 (by decide) ?_
  refine lv_iconst (v := (1 : Int32)) hx hb d_P_colp_15 (by decide) ?_
  refine lv_isub hx hb d_P_colp_16 ?_
  refine lv_i2l hx hb d_P_colp_17 rfl ?_
  refine lv_iload_n hx hb d_P_colp_18 rfl (lv_at hl 1 rfl) ?_
  refine lv_iconst (v := (3 : Int32)) hx hb d_P_colp_19 (by decide) ?_
  refine lv_irem hx hb d_P_colp_20 (by decide) ?_
  refine lv_iconst (v := (1 : Int32)) hx hb d_P_colp_21 (by decide) ?_
  refine lv_isub hx hb d_P_colp_22 ?_
  refine lv_i2l hx hb d_P_colp_23 rfl ?_
  refine lv_iload_n hx hb d_P_colp_24 rfl (lv_at hl 2 rfl) ?_
  refine lv_bipush (v := (9 : Int32)) hx hb d_P_colp_25 (by decide) ?_
  refine lv_idiv hx hb d_P_colp_27 (by decide) ?_
  refine lv_iconst (v := (3 : Int32)) hx hb d_P_colp_28 (by decide) ?_
  refine lv_irem hx hb d_P_colp_29 (by decide) ?_
  refine lv_iconst (v := (1 : Int32)) hx hb d_P_colp_30 (by decide) ?_
  refine lv_isub hx hb d_P_colp_31 ?_
  refine lv_i2l hx hb d_P_colp_32 rfl ?_
  refine lv_iload_n hx hb d_P_colp_33 rfl (lv_at hl 2 rfl) ?_
  refine lv_iconst (v := (3 : Int32)) hx hb d_P_colp_34 (by decide) ?_
  refine lv_idiv hx hb d_P_colp_35 (by decide) ?_
  refine lv_iconst (v := (3 : Int32)) hx hb d_P_colp_36 (by decide) ?_
  refine lv_irem hx hb d_P_colp_37 (by decide) ?_
  refine lv_iconst (v := (1 : Int32)) hx hb d_P_colp_38 (by decide) ?_
  refine lv_isub hx hb d_P_colp_39 ?_
  refine lv_i2l hx hb d_P_colp_40 rfl ?_
  refine lv_iload_n hx hb d_P_colp_41 rfl (lv_at hl 2 rfl) ?_
  refine lv_iconst (v := (3 : Int32)) hx hb d_P_colp_42 (by decide) ?_
  refine lv_irem hx hb d_P_colp_43 (by decide) ?_
  refine lv_iconst (v := (1 : Int32)) hx hb d_P_colp_44 (by decide) ?_
  refine lv_isub hx hb d_P_colp_45 ?_
  refine lv_i2l hx hb d_P_colp_46 rfl ?_
  refine vp_callSl (va_Run.run (va_runV (As := [.long ((((lf / (9 : Int32)) - (lf / (9 : Int32)) / (3 : Int32) * (3 : Int32)) - (1 : Int32)).toInt64), .long ((((lf / (3 : Int32)) - (lf / (3 : Int32)) / (3 : Int32) * (3 : Int32)) - (1 : Int32)).toInt64), .long (((lf - lf / (3 : Int32) * (3 : Int32)) - (1 : Int32)).toInt64), .long ((((rg / (9 : Int32)) - (rg / (9 : Int32)) / (3 : Int32) * (3 : Int32)) - (1 : Int32)).toInt64), .long ((((rg / (3 : Int32)) - (rg / (3 : Int32)) / (3 : Int32) * (3 : Int32)) - (1 : Int32)).toInt64), .long (((rg - rg / (3 : Int32) * (3 : Int32)) - (1 : Int32)).toInt64)]) (rest := []) ⟨hx, hb, hml, hown, htg⟩ (c_P_prod l D ct ws k0 h0 fa fb fc fd fe ff ((((lf / (9 : Int32)) - (lf / (9 : Int32)) / (3 : Int32) * (3 : Int32)) - (1 : Int32)).toInt64) ((((lf / (3 : Int32)) - (lf / (3 : Int32)) / (3 : Int32) * (3 : Int32)) - (1 : Int32)).toInt64) (((lf - lf / (3 : Int32) * (3 : Int32)) - (1 : Int32)).toInt64) ((((rg / (9 : Int32)) - (rg / (9 : Int32)) / (3 : Int32) * (3 : Int32)) - (1 : Int32)).toInt64) ((((rg / (3 : Int32)) - (rg / (3 : Int32)) / (3 : Int32) * (3 : Int32)) - (1 : Int32)).toInt64) (((rg - rg / (3 : Int32) * (3 : Int32)) - (1 : Int32)).toInt64) hk0  _ rfl) (cwV 6 htg (giV tm_233 tm_234 tm_235 tm_35 g_P_prod) rfl rfl rfl (by decide +kernel) ⟨Nat.le_of_ble_eq_true rfl, Nat.le_of_ble_eq_true rfl⟩) (preV hP hKK (va_recv hK hP (ci := 0) (q0 := k0) rfl hk0)) rfl rfl hl.1 rfl (lv_room (Nat.le_of_ble_eq_true rfl)) d_P_colp_47 ⟨Nat.le_of_ble_eq_true rfl, Nat.le_of_ble_eq_true rfl⟩)) (fun r9 hr9 => ?_)
  subst hr9
  exact W.lret (v := f_P_prod fa fb fc fd fe ff ((((lf / (9 : Int32)) - (lf / (9 : Int32)) / (3 : Int32) * (3 : Int32)) - (1 : Int32)).toInt64) ((((lf / (3 : Int32)) - (lf / (3 : Int32)) / (3 : Int32) * (3 : Int32)) - (1 : Int32)).toInt64) (((lf - lf / (3 : Int32) * (3 : Int32)) - (1 : Int32)).toInt64) ((((rg / (9 : Int32)) - (rg / (9 : Int32)) / (3 : Int32) * (3 : Int32)) - (1 : Int32)).toInt64) ((((rg / (3 : Int32)) - (rg / (3 : Int32)) / (3 : Int32) * (3 : Int32)) - (1 : Int32)).toInt64) (((rg - rg / (3 : Int32) * (3 : Int32)) - (1 : Int32)).toInt64)) hx hb hr (fun t ht hW => ⟨f_P_prod fa fb fc fd fe ff ((((lf / (9 : Int32)) - (lf / (9 : Int32)) / (3 : Int32) * (3 : Int32)) - (1 : Int32)).toInt64) ((((lf / (3 : Int32)) - (lf / (3 : Int32)) / (3 : Int32) * (3 : Int32)) - (1 : Int32)).toInt64) (((lf - lf / (3 : Int32) * (3 : Int32)) - (1 : Int32)).toInt64) ((((rg / (9 : Int32)) - (rg / (9 : Int32)) / (3 : Int32) * (3 : Int32)) - (1 : Int32)).toInt64) ((((rg / (3 : Int32)) - (rg / (3 : Int32)) / (3 : Int32) * (3 : Int32)) - (1 : Int32)).toInt64) (((rg - rg / (3 : Int32) * (3 : Int32)) - (1 : Int32)).toInt64), rfl, h, ht⟩) (fun q h => by cases h) d_P_colp_50
-- CellBench$Products fitsSecond (II)Z
def f_P_fit2 (fa : Int64) (fb : Int64) (fc : Int64) (fd : Int64) (fe : Int64) (ff : Int64) (i1 : Int32) (i2 : Int32) : Int32 :=
    if (lg_cmp (f_P_colp fa fb fc fd fe ff i2 i2) fb) = 0 then (if (lg_cmp (f_P_colp fa fb fc fd fe ff i1 i2) ff) = 0 then (1 : Int32) else (0 : Int32)) else (0 : Int32)
def w_P_fit2 : List Cond := .code y_P_fit2 b_P_fit2 3 (some .boolean) :: GW
abbrev rm_P_fit2 : Room := { frames := 2, cells := 0, slots := 0, locals := 54 }
theorem g_P_fit2 : GoodIn GW w_P_fit2 := gi tm_240
set_option maxHeartbeats 4000000 in
set_option maxRecDepth 100000 in
theorem c_P_fit2 (l : Launch) (D : va_G) (ct : CT) (ws : va_W) (k0 : Nat) (h0 : Nat) (fa : Int64) (fb : Int64) (fc : Int64) (fd : Int64) (fe : Int64) (ff : Int64) (i1 : Int32) (i2 : Int32) (hk0 : ws[k0]? = some (h0, .inr (0, [.long fa, .long fb, .long fc, .long fd, .long fe, .long ff])))  (r0 : Int32) (h : f_P_fit2 fa fb fc fd fe ff i1 i2 = r0) : Met l y_P_fit2 w_P_fit2 rm_P_fit2 (va_Pc [.ref h0, .int i1, .int i2] (PreP D ct ws)) (vp_Si (fun r => r = r0)) 0 0 (fun _ => False) := by
  refine Met.ofW (cc := b_P_fit2) (maxL := 3) (ret := (some .boolean)) (by decide) rfl ?_
  intro p e s m args below meth c s₁ B hml hv
  obtain ⟨rfl, hP, hKK⟩ := hv
  have hx := B.exec
  have hb := B.bytes
  have hr := B.returns
  have htg := ht_tl (atoms_spec (ws := w_P_fit2) B.pre)
  have hown : s.vm.findClass R_Products = some m.cls := findClass_of_methodNamed B.named
  have hlocks := B.notSynchronized
  have hK := hKK.1
  have hN := hKK.2.1
  have hO := hKK.2.2
  have hl := lv_entry ([.ref h0, .int i1, .int i2]) (n := 3) (Nat.le_of_ble_eq_true rfl)
  rw [lg_entry_eq]
  generalize (lg_sl ([.ref h0, .int i1, .int i2]) ++ List.replicate (3 - (lg_sl ([.ref h0, .int i1, .int i2])).length) Slot.unset).toArray = ls at hl ⊢
  have hl : lv_has ls 3 [(0, .ref h0), (1, .int i1), (2, .int i2)] := hl
  unfold f_P_fit2 at h
  refine lv_aload_n hx hb d_P_fit2_0 rfl (lv_at hl 0 rfl) ?_
  refine lv_iload_n hx hb d_P_fit2_1 rfl (lv_at hl 2 rfl) ?_
  refine lv_iload_n hx hb d_P_fit2_2 rfl (lv_at hl 2 rfl) ?_
  refine vp_callSl (va_Run.run (va_runV (As := [.int i2, .int i2]) (rest := []) ⟨hx, hb, hml, hown, htg⟩ (c_P_colp l D ct ws k0 h0 fa fb fc fd fe ff i2 i2 hk0  _ rfl) (cwV 2 htg (giV tm_229 tm_231 tm_7 tm_35 g_P_colp) rfl rfl rfl (by decide +kernel) ⟨Nat.le_of_ble_eq_true rfl, Nat.le_of_ble_eq_true rfl⟩) (preV hP hKK (va_recv hK hP (ci := 0) (q0 := k0) rfl hk0)) rfl rfl hl.1 rfl (lv_room (Nat.le_of_ble_eq_true rfl)) d_P_fit2_3 ⟨Nat.le_of_ble_eq_true rfl, Nat.le_of_ble_eq_true rfl⟩)) (fun r9 hr9 => ?_)
  subst hr9
  refine lv_aload_n hx hb d_P_fit2_6 rfl (lv_at hl 0 rfl) ?_
  refine va_get (D := D) (ci := 0) (v := .long fb) (C := R_Products) (T := F_Products) (N := 6) hx hb htg i_Products hown hK hP k0 hk0 rfl 1 (by decide) (htg _ tm_135) (fun _ h9 => h9) rfl d_P_fit2_7 ?_
  refine W.lcmp hx hb d_P_fit2_10 ?_
  refine lv_if_ne (tgt := 32) hx hb d_P_fit2_11 (by decide) (fun c_1 => ?_) (fun c_1 => ?_)
  · rw [if_neg c_1] at h
    refine lv_iconst (v := (0 : Int32)) hx hb d_P_fit2_32 (by decide) ?_
    exact W.zret (v := (0 : Int32)) (ty := .boolean) hx hb hr rfl (fun t ht hW => ⟨(0 : Int32), rfl, h, ht⟩) (fun q h => by cases h) d_P_fit2_33
  · rw [if_pos c_1] at h
    refine lv_aload_n hx hb d_P_fit2_14 rfl (lv_at hl 0 rfl) ?_
    refine lv_iload_n hx hb d_P_fit2_15 rfl (lv_at hl 1 rfl) ?_
    refine lv_iload_n hx hb d_P_fit2_16 rfl (lv_at hl 2 rfl) ?_
    refine vp_callSl (va_Run.run (va_runV (As := [.int i1, .int i2]) (rest := []) ⟨hx, hb, hml, hown, htg⟩ (c_P_colp l D ct ws k0 h0 fa fb fc fd fe ff i1 i2 hk0  _ rfl) (cwV 2 htg (giV tm_229 tm_231 tm_7 tm_35 g_P_colp) rfl rfl rfl (by decide +kernel) ⟨Nat.le_of_ble_eq_true rfl, Nat.le_of_ble_eq_true rfl⟩) (preV hP hKK (va_recv hK hP (ci := 0) (q0 := k0) rfl hk0)) rfl rfl hl.1 rfl (lv_room (Nat.le_of_ble_eq_true rfl)) d_P_fit2_17 ⟨Nat.le_of_ble_eq_true rfl, Nat.le_of_ble_eq_true rfl⟩)) (fun r9 hr9 => ?_)
    subst hr9
    refine lv_aload_n hx hb d_P_fit2_20 rfl (lv_at hl 0 rfl) ?_
    refine va_get (D := D) (ci := 0) (v := .long ff) (C := R_Products) (T := F_Products) (N := 6) hx hb htg i_Products hown hK hP k0 hk0 rfl 5 (by decide) (htg _ tm_143) (fun _ h9 => h9) rfl d_P_fit2_21 ?_
    refine W.lcmp hx hb d_P_fit2_24 ?_
    refine lv_if_ne (tgt := 32) hx hb d_P_fit2_25 (by decide) (fun c_2 => ?_) (fun c_2 => ?_)
    · rw [if_neg c_2] at h
      refine lv_iconst (v := (0 : Int32)) hx hb d_P_fit2_32 (by decide) ?_
      exact W.zret (v := (0 : Int32)) (ty := .boolean) hx hb hr rfl (fun t ht hW => ⟨(0 : Int32), rfl, h, ht⟩) (fun q h => by cases h) d_P_fit2_33
    · rw [if_pos c_2] at h
      refine lv_iconst (v := (1 : Int32)) hx hb d_P_fit2_28 (by decide) ?_
      refine lv_goto (tgt := 33) hx hb d_P_fit2_29 (by decide) ?_
      exact W.zret (v := (1 : Int32)) (ty := .boolean) hx hb hr rfl (fun t ht hW => ⟨(1 : Int32), rfl, h, ht⟩) (fun q h => by cases h) d_P_fit2_33
-- CellBench$Products fitsThird (III)Z
def f_P_fit3 (fa : Int64) (fb : Int64) (fc : Int64) (fd : Int64) (fe : Int64) (ff : Int64) (i1 : Int32) (i2 : Int32) (i3 : Int32) : Int32 :=
    if (lg_cmp (f_P_colp fa fb fc fd fe ff i3 i3) fc) = 0 then (if (lg_cmp (f_P_colp fa fb fc fd fe ff i1 i3) fe) = 0 then (if (lg_cmp (f_P_colp fa fb fc fd fe ff i2 i3) fd) = 0 then (1 : Int32) else (0 : Int32)) else (0 : Int32)) else (0 : Int32)
def w_P_fit3 : List Cond := .code y_P_fit3 b_P_fit3 4 (some .boolean) :: GW
abbrev rm_P_fit3 : Room := { frames := 2, cells := 0, slots := 0, locals := 54 }
theorem g_P_fit3 : GoodIn GW w_P_fit3 := gi tm_248
set_option maxHeartbeats 4000000 in
set_option maxRecDepth 100000 in
theorem c_P_fit3 (l : Launch) (D : va_G) (ct : CT) (ws : va_W) (k0 : Nat) (h0 : Nat) (fa : Int64) (fb : Int64) (fc : Int64) (fd : Int64) (fe : Int64) (ff : Int64) (i1 : Int32) (i2 : Int32) (i3 : Int32) (hk0 : ws[k0]? = some (h0, .inr (0, [.long fa, .long fb, .long fc, .long fd, .long fe, .long ff])))  (r0 : Int32) (h : f_P_fit3 fa fb fc fd fe ff i1 i2 i3 = r0) : Met l y_P_fit3 w_P_fit3 rm_P_fit3 (va_Pc [.ref h0, .int i1, .int i2, .int i3] (PreP D ct ws)) (vp_Si (fun r => r = r0)) 0 0 (fun _ => False) := by
  refine Met.ofW (cc := b_P_fit3) (maxL := 4) (ret := (some .boolean)) (by decide) rfl ?_
  intro p e s m args below meth c s₁ B hml hv
  obtain ⟨rfl, hP, hKK⟩ := hv
  have hx := B.exec
  have hb := B.bytes
  have hr := B.returns
  have htg := ht_tl (atoms_spec (ws := w_P_fit3) B.pre)
  have hown : s.vm.findClass R_Products = some m.cls := findClass_of_methodNamed B.named
  have hlocks := B.notSynchronized
  have hK := hKK.1
  have hN := hKK.2.1
  have hO := hKK.2.2
  have hl := lv_entry ([.ref h0, .int i1, .int i2, .int i3]) (n := 4) (Nat.le_of_ble_eq_true rfl)
  rw [lg_entry_eq]
  generalize (lg_sl ([.ref h0, .int i1, .int i2, .int i3]) ++ List.replicate (4 - (lg_sl ([.ref h0, .int i1, .int i2, .int i3])).length) Slot.unset).toArray = ls at hl ⊢
  have hl : lv_has ls 4 [(0, .ref h0), (1, .int i1), (2, .int i2), (3, .int i3)] := hl
  unfold f_P_fit3 at h
  refine lv_aload_n hx hb d_P_fit3_0 rfl (lv_at hl 0 rfl) ?_
  refine lv_iload_n hx hb d_P_fit3_1 rfl (lv_at hl 3 rfl) ?_
  refine lv_iload_n hx hb d_P_fit3_2 rfl (lv_at hl 3 rfl) ?_
  refine vp_callSl (va_Run.run (va_runV (As := [.int i3, .int i3]) (rest := []) ⟨hx, hb, hml, hown, htg⟩ (c_P_colp l D ct ws k0 h0 fa fb fc fd fe ff i3 i3 hk0  _ rfl) (cwV 2 htg (giV tm_229 tm_231 tm_7 tm_35 g_P_colp) rfl rfl rfl (by decide +kernel) ⟨Nat.le_of_ble_eq_true rfl, Nat.le_of_ble_eq_true rfl⟩) (preV hP hKK (va_recv hK hP (ci := 0) (q0 := k0) rfl hk0)) rfl rfl hl.1 rfl (lv_room (Nat.le_of_ble_eq_true rfl)) d_P_fit3_3 ⟨Nat.le_of_ble_eq_true rfl, Nat.le_of_ble_eq_true rfl⟩)) (fun r9 hr9 => ?_)
  subst hr9
  refine lv_aload_n hx hb d_P_fit3_6 rfl (lv_at hl 0 rfl) ?_
  refine va_get (D := D) (ci := 0) (v := .long fc) (C := R_Products) (T := F_Products) (N := 6) hx hb htg i_Products hown hK hP k0 hk0 rfl 2 (by decide) (htg _ tm_137) (fun _ h9 => h9) rfl d_P_fit3_7 ?_
  refine W.lcmp hx hb d_P_fit3_10 ?_
  refine lv_if_ne (tgt := 46) hx hb d_P_fit3_11 (by decide) (fun c_1 => ?_) (fun c_1 => ?_)
  · rw [if_neg c_1] at h
    refine lv_iconst (v := (0 : Int32)) hx hb d_P_fit3_46 (by decide) ?_
    exact W.zret (v := (0 : Int32)) (ty := .boolean) hx hb hr rfl (fun t ht hW => ⟨(0 : Int32), rfl, h, ht⟩) (fun q h => by cases h) d_P_fit3_47
  · rw [if_pos c_1] at h
    refine lv_aload_n hx hb d_P_fit3_14 rfl (lv_at hl 0 rfl) ?_
    refine lv_iload_n hx hb d_P_fit3_15 rfl (lv_at hl 1 rfl) ?_
    refine lv_iload_n hx hb d_P_fit3_16 rfl (lv_at hl 3 rfl) ?_
    refine vp_callSl (va_Run.run (va_runV (As := [.int i1, .int i3]) (rest := []) ⟨hx, hb, hml, hown, htg⟩ (c_P_colp l D ct ws k0 h0 fa fb fc fd fe ff i1 i3 hk0  _ rfl) (cwV 2 htg (giV tm_229 tm_231 tm_7 tm_35 g_P_colp) rfl rfl rfl (by decide +kernel) ⟨Nat.le_of_ble_eq_true rfl, Nat.le_of_ble_eq_true rfl⟩) (preV hP hKK (va_recv hK hP (ci := 0) (q0 := k0) rfl hk0)) rfl rfl hl.1 rfl (lv_room (Nat.le_of_ble_eq_true rfl)) d_P_fit3_17 ⟨Nat.le_of_ble_eq_true rfl, Nat.le_of_ble_eq_true rfl⟩)) (fun r9 hr9 => ?_)
    subst hr9
    refine lv_aload_n hx hb d_P_fit3_20 rfl (lv_at hl 0 rfl) ?_
    refine va_get (D := D) (ci := 0) (v := .long fe) (C := R_Products) (T := F_Products) (N := 6) hx hb htg i_Products hown hK hP k0 hk0 rfl 4 (by decide) (htg _ tm_141) (fun _ h9 => h9) rfl d_P_fit3_21 ?_
    refine W.lcmp hx hb d_P_fit3_24 ?_
    refine lv_if_ne (tgt := 46) hx hb d_P_fit3_25 (by decide) (fun c_2 => ?_) (fun c_2 => ?_)
    · rw [if_neg c_2] at h
      refine lv_iconst (v := (0 : Int32)) hx hb d_P_fit3_46 (by decide) ?_
      exact W.zret (v := (0 : Int32)) (ty := .boolean) hx hb hr rfl (fun t ht hW => ⟨(0 : Int32), rfl, h, ht⟩) (fun q h => by cases h) d_P_fit3_47
    · rw [if_pos c_2] at h
      refine lv_aload_n hx hb d_P_fit3_28 rfl (lv_at hl 0 rfl) ?_
      refine lv_iload_n hx hb d_P_fit3_29 rfl (lv_at hl 2 rfl) ?_
      refine lv_iload_n hx hb d_P_fit3_30 rfl (lv_at hl 3 rfl) ?_
      refine vp_callSl (va_Run.run (va_runV (As := [.int i2, .int i3]) (rest := []) ⟨hx, hb, hml, hown, htg⟩ (c_P_colp l D ct ws k0 h0 fa fb fc fd fe ff i2 i3 hk0  _ rfl) (cwV 2 htg (giV tm_229 tm_231 tm_7 tm_35 g_P_colp) rfl rfl rfl (by decide +kernel) ⟨Nat.le_of_ble_eq_true rfl, Nat.le_of_ble_eq_true rfl⟩) (preV hP hKK (va_recv hK hP (ci := 0) (q0 := k0) rfl hk0)) rfl rfl hl.1 rfl (lv_room (Nat.le_of_ble_eq_true rfl)) d_P_fit3_31 ⟨Nat.le_of_ble_eq_true rfl, Nat.le_of_ble_eq_true rfl⟩)) (fun r9 hr9 => ?_)
      subst hr9
      refine lv_aload_n hx hb d_P_fit3_34 rfl (lv_at hl 0 rfl) ?_
      refine va_get (D := D) (ci := 0) (v := .long fd) (C := R_Products) (T := F_Products) (N := 6) hx hb htg i_Products hown hK hP k0 hk0 rfl 3 (by decide) (htg _ tm_139) (fun _ h9 => h9) rfl d_P_fit3_35 ?_
      refine W.lcmp hx hb d_P_fit3_38 ?_
      refine lv_if_ne (tgt := 46) hx hb d_P_fit3_39 (by decide) (fun c_3 => ?_) (fun c_3 => ?_)
      · rw [if_neg c_3] at h
        refine lv_iconst (v := (0 : Int32)) hx hb d_P_fit3_46 (by decide) ?_
        exact W.zret (v := (0 : Int32)) (ty := .boolean) hx hb hr rfl (fun t ht hW => ⟨(0 : Int32), rfl, h, ht⟩) (fun q h => by cases h) d_P_fit3_47
      · rw [if_pos c_3] at h
        refine lv_iconst (v := (1 : Int32)) hx hb d_P_fit3_42 (by decide) ?_
        refine lv_goto (tgt := 47) hx hb d_P_fit3_43 (by decide) ?_
        exact W.zret (v := (1 : Int32)) (ty := .boolean) hx hb hr rfl (fun t ht hW => ⟨(1 : Int32), rfl, h, ht⟩) (fun q h => by cases h) d_P_fit3_47
-- CellBench$Products areKeptBy (III)Z
def f_P_kept (fa : Int64) (fb : Int64) (fc : Int64) (fd : Int64) (fe : Int64) (ff : Int64) (i1 : Int32) (i2 : Int32) (i3 : Int32) : Int32 :=
    if (lg_cmp (f_P_colp fa fb fc fd fe ff i1 i1) fa) = 0 then (if (f_P_fit2 fa fb fc fd fe ff i1 i2) = 0 then (0 : Int32) else (if (f_P_fit3 fa fb fc fd fe ff i1 i2 i3) = 0 then (0 : Int32) else (1 : Int32))) else (0 : Int32)
def w_P_kept : List Cond := .code y_P_kept b_P_kept 4 (some .boolean) :: GW
abbrev rm_P_kept : Room := { frames := 3, cells := 0, slots := 0, locals := 77 }
theorem g_P_kept : GoodIn GW w_P_kept := gi tm_297
set_option maxHeartbeats 4000000 in
set_option maxRecDepth 100000 in
theorem c_P_kept (l : Launch) (D : va_G) (ct : CT) (ws : va_W) (k0 : Nat) (h0 : Nat) (fa : Int64) (fb : Int64) (fc : Int64) (fd : Int64) (fe : Int64) (ff : Int64) (i1 : Int32) (i2 : Int32) (i3 : Int32) (hk0 : ws[k0]? = some (h0, .inr (0, [.long fa, .long fb, .long fc, .long fd, .long fe, .long ff])))  (r0 : Int32) (h : f_P_kept fa fb fc fd fe ff i1 i2 i3 = r0) : Met l y_P_kept w_P_kept rm_P_kept (va_Pc [.ref h0, .int i1, .int i2, .int i3] (PreP D ct ws)) (vp_Si (fun r => r = r0)) 0 0 (fun _ => False) := by
  refine Met.ofW (cc := b_P_kept) (maxL := 4) (ret := (some .boolean)) (by decide) rfl ?_
  intro p e s m args below meth c s₁ B hml hv
  obtain ⟨rfl, hP, hKK⟩ := hv
  have hx := B.exec
  have hb := B.bytes
  have hr := B.returns
  have htg := ht_tl (atoms_spec (ws := w_P_kept) B.pre)
  have hown : s.vm.findClass R_Products = some m.cls := findClass_of_methodNamed B.named
  have hlocks := B.notSynchronized
  have hK := hKK.1
  have hN := hKK.2.1
  have hO := hKK.2.2
  have hl := lv_entry ([.ref h0, .int i1, .int i2, .int i3]) (n := 4) (Nat.le_of_ble_eq_true rfl)
  rw [lg_entry_eq]
  generalize (lg_sl ([.ref h0, .int i1, .int i2, .int i3]) ++ List.replicate (4 - (lg_sl ([.ref h0, .int i1, .int i2, .int i3])).length) Slot.unset).toArray = ls at hl ⊢
  have hl : lv_has ls 4 [(0, .ref h0), (1, .int i1), (2, .int i2), (3, .int i3)] := hl
  unfold f_P_kept at h
  refine lv_aload_n hx hb d_P_kept_0 rfl (lv_at hl 0 rfl) ?_
  refine lv_iload_n hx hb d_P_kept_1 rfl (lv_at hl 1 rfl) ?_
  refine lv_iload_n hx hb d_P_kept_2 rfl (lv_at hl 1 rfl) ?_
  refine vp_callSl (va_Run.run (va_runV (As := [.int i1, .int i1]) (rest := []) ⟨hx, hb, hml, hown, htg⟩ (c_P_colp l D ct ws k0 h0 fa fb fc fd fe ff i1 i1 hk0  _ rfl) (cwV 2 htg (giV tm_229 tm_231 tm_7 tm_35 g_P_colp) rfl rfl rfl (by decide +kernel) ⟨Nat.le_of_ble_eq_true rfl, Nat.le_of_ble_eq_true rfl⟩) (preV hP hKK (va_recv hK hP (ci := 0) (q0 := k0) rfl hk0)) rfl rfl hl.1 rfl (lv_room (Nat.le_of_ble_eq_true rfl)) d_P_kept_3 ⟨Nat.le_of_ble_eq_true rfl, Nat.le_of_ble_eq_true rfl⟩)) (fun r9 hr9 => ?_)
  subst hr9
  refine lv_aload_n hx hb d_P_kept_6 rfl (lv_at hl 0 rfl) ?_
  refine va_get (D := D) (ci := 0) (v := .long fa) (C := R_Products) (T := F_Products) (N := 6) hx hb htg i_Products hown hK hP k0 hk0 rfl 0 (by decide) (htg _ tm_133) (fun _ h9 => h9) rfl d_P_kept_7 ?_
  refine W.lcmp hx hb d_P_kept_10 ?_
  refine lv_if_ne (tgt := 37) hx hb d_P_kept_11 (by decide) (fun c_1 => ?_) (fun c_1 => ?_)
  · rw [if_neg c_1] at h
    refine lv_iconst (v := (0 : Int32)) hx hb d_P_kept_37 (by decide) ?_
    exact W.zret (v := (0 : Int32)) (ty := .boolean) hx hb hr rfl (fun t ht hW => ⟨(0 : Int32), rfl, h, ht⟩) (fun q h => by cases h) d_P_kept_38
  · rw [if_pos c_1] at h
    refine lv_aload_n hx hb d_P_kept_14 rfl (lv_at hl 0 rfl) ?_
    refine lv_iload_n hx hb d_P_kept_15 rfl (lv_at hl 1 rfl) ?_
    refine lv_iload_n hx hb d_P_kept_16 rfl (lv_at hl 2 rfl) ?_
    refine vp_callSi (va_Run.run (va_runV (As := [.int i1, .int i2]) (rest := []) ⟨hx, hb, hml, hown, htg⟩ (c_P_fit2 l D ct ws k0 h0 fa fb fc fd fe ff i1 i2 hk0  _ rfl) (cwV 2 htg (giV tm_237 tm_239 tm_8 tm_35 g_P_fit2) rfl rfl rfl (by decide +kernel) ⟨Nat.le_of_ble_eq_true rfl, Nat.le_of_ble_eq_true rfl⟩) (preV hP hKK (va_recv hK hP (ci := 0) (q0 := k0) rfl hk0)) rfl rfl hl.1 rfl (lv_room (Nat.le_of_ble_eq_true rfl)) d_P_kept_17 ⟨Nat.le_of_ble_eq_true rfl, Nat.le_of_ble_eq_true rfl⟩)) (fun r9 hr9 => ?_)
    subst hr9
    refine lv_if_eq (tgt := 37) hx hb d_P_kept_20 (by decide) (fun c_2 => ?_) (fun c_2 => ?_)
    · rw [if_pos c_2] at h
      refine lv_iconst (v := (0 : Int32)) hx hb d_P_kept_37 (by decide) ?_
      exact W.zret (v := (0 : Int32)) (ty := .boolean) hx hb hr rfl (fun t ht hW => ⟨(0 : Int32), rfl, h, ht⟩) (fun q h => by cases h) d_P_kept_38
    · rw [if_neg c_2] at h
      refine lv_aload_n hx hb d_P_kept_23 rfl (lv_at hl 0 rfl) ?_
      refine lv_iload_n hx hb d_P_kept_24 rfl (lv_at hl 1 rfl) ?_
      refine lv_iload_n hx hb d_P_kept_25 rfl (lv_at hl 2 rfl) ?_
      refine lv_iload_n hx hb d_P_kept_26 rfl (lv_at hl 3 rfl) ?_
      refine vp_callSi (va_Run.run (va_runV (As := [.int i1, .int i2, .int i3]) (rest := []) ⟨hx, hb, hml, hown, htg⟩ (c_P_fit3 l D ct ws k0 h0 fa fb fc fd fe ff i1 i2 i3 hk0  _ rfl) (cwV 3 htg (giV tm_245 tm_247 tm_10 tm_35 g_P_fit3) rfl rfl rfl (by decide +kernel) ⟨Nat.le_of_ble_eq_true rfl, Nat.le_of_ble_eq_true rfl⟩) (preV hP hKK (va_recv hK hP (ci := 0) (q0 := k0) rfl hk0)) rfl rfl hl.1 rfl (lv_room (Nat.le_of_ble_eq_true rfl)) d_P_kept_27 ⟨Nat.le_of_ble_eq_true rfl, Nat.le_of_ble_eq_true rfl⟩)) (fun r9 hr9 => ?_)
      subst hr9
      refine lv_if_eq (tgt := 37) hx hb d_P_kept_30 (by decide) (fun c_3 => ?_) (fun c_3 => ?_)
      · rw [if_pos c_3] at h
        refine lv_iconst (v := (0 : Int32)) hx hb d_P_kept_37 (by decide) ?_
        exact W.zret (v := (0 : Int32)) (ty := .boolean) hx hb hr rfl (fun t ht hW => ⟨(0 : Int32), rfl, h, ht⟩) (fun q h => by cases h) d_P_kept_38
      · rw [if_neg c_3] at h
        refine lv_iconst (v := (1 : Int32)) hx hb d_P_kept_33 (by decide) ?_
        refine lv_goto (tgt := 38) hx hb d_P_kept_34 (by decide) ?_
        exact W.zret (v := (1 : Int32)) (ty := .boolean) hx hb hr rfl (fun t ht hW => ⟨(1 : Int32), rfl, h, ht⟩) (fun q h => by cases h) d_P_kept_38
-- CellBench$Products countThirds (II)I
def lp_P_thirds_5 (fa : Int64) (fb : Int64) (fc : Int64) (fd : Int64) (fe : Int64) (ff : Int64) (i1 : Int32) (i2 : Int32) : Nat → Int32 → Int32 → Option (Int32)
  | 0, _, _ => none
  | n + 1, th, ix =>
    if (27 : Int32) ≤ ix then (some th) else (if (f_P_fit3 fa fb fc fd fe ff i1 i2 ix) = 0 then (lp_P_thirds_5 fa fb fc fd fe ff i1 i2 n th (ix + (1 : Int32))) else (lp_P_thirds_5 fa fb fc fd fe ff i1 i2 n (th + (1 : Int32)) (ix + (1 : Int32))))
def f_P_thirds (fa : Int64) (fb : Int64) (fc : Int64) (fd : Int64) (fe : Int64) (ff : Int64) (i1 : Int32) (i2 : Int32) : Option (Int32) :=
    lp_P_thirds_5 fa fb fc fd fe ff i1 i2 28 (0 : Int32) (0 : Int32)
def w_P_thirds : List Cond := .code y_P_thirds b_P_thirds 5 (some .int) :: GW
abbrev rm_P_thirds : Room := { frames := 3, cells := 0, slots := 0, locals := 77 }
theorem g_P_thirds : GoodIn GW w_P_thirds := gi tm_244
set_option maxHeartbeats 4000000 in
set_option maxRecDepth 100000 in
theorem c_P_thirds (l : Launch) (D : va_G) (ct : CT) (ws : va_W) (k0 : Nat) (h0 : Nat) (fa : Int64) (fb : Int64) (fc : Int64) (fd : Int64) (fe : Int64) (ff : Int64) (i1 : Int32) (i2 : Int32) (hk0 : ws[k0]? = some (h0, .inr (0, [.long fa, .long fb, .long fc, .long fd, .long fe, .long ff])))  (r0 : Int32) (h : f_P_thirds fa fb fc fd fe ff i1 i2 = some r0) : Met l y_P_thirds w_P_thirds rm_P_thirds (va_Pc [.ref h0, .int i1, .int i2] (PreP D ct ws)) (vp_Si (fun r => r = r0)) 0 0 (fun _ => False) := by
  refine Met.ofW (cc := b_P_thirds) (maxL := 5) (ret := (some .int)) (by decide) rfl ?_
  intro p e s m args below meth c s₁ B hml hv
  obtain ⟨rfl, hP, hKK⟩ := hv
  have hx := B.exec
  have hb := B.bytes
  have hr := B.returns
  have htg := ht_tl (atoms_spec (ws := w_P_thirds) B.pre)
  have hown : s.vm.findClass R_Products = some m.cls := findClass_of_methodNamed B.named
  have hlocks := B.notSynchronized
  have hK := hKK.1
  have hN := hKK.2.1
  have hO := hKK.2.2
  have hl := lv_entry ([.ref h0, .int i1, .int i2]) (n := 5) (Nat.le_of_ble_eq_true rfl)
  rw [lg_entry_eq]
  generalize (lg_sl ([.ref h0, .int i1, .int i2]) ++ List.replicate (5 - (lg_sl ([.ref h0, .int i1, .int i2])).length) Slot.unset).toArray = ls at hl ⊢
  have hl : lv_has ls 5 [(0, .ref h0), (1, .int i1), (2, .int i2)] := hl
  unfold f_P_thirds at h
  refine lv_iconst (v := (0 : Int32)) hx hb d_P_thirds_0 (by decide) ?_
  refine lv_istore_n (lv' := [(3, .int (0 : Int32)), (0, .ref h0), (1, .int i1), (2, .int i2)]) hx hb d_P_thirds_1 rfl hl (by decide) rfl (fun ls hl => ?_)
  refine lv_iconst (v := (0 : Int32)) hx hb d_P_thirds_2 (by decide) ?_
  refine lv_istore (lv' := [(4, .int (0 : Int32)), (3, .int (0 : Int32)), (0, .ref h0), (1, .int i1), (2, .int i2)]) hx hb d_P_thirds_3 hl (by decide) rfl (fun ls hl => ?_)
  have L_5 : ∀ (n : Nat) (th : Int32) (ix : Int32) , lp_P_thirds_5 fa fb fc fd fe ff i1 i2 n th ix = some r0 → ∀ (ls : Array Slot), lv_has ls 5 [(3, .int th), (4, .int ix), (0, .ref h0), (1, .int i1), (2, .int i2)] → W p l e (headSpec w_P_thirds rm_P_thirds).room s m ([.ref h0, .int i1, .int i2] : List Value).toArray below meth c s.heap [] 0 0 (MQ below (vp_Si (fun r => r = r0)) ([.ref h0, .int i1, .int i2] : List Value).toArray s 0 0 (fun _ => False)) (F0 m 5 ls []) := by
    intro n
    induction n with
    | zero =>
      intro th ix  h
      rw [lp_P_thirds_5] at h
      cases h
    | succ n ih =>
      intro th ix  h ls hl
      rw [lp_P_thirds_5] at h
      refine lv_iload hx hb d_P_thirds_5 (lv_at hl 1 rfl) ?_
      refine lv_bipush (v := (27 : Int32)) hx hb d_P_thirds_7 (by decide) ?_
      refine lv_icmp_ge (tgt := 32) hx hb d_P_thirds_9 (by decide) (fun c_1 => ?_) (fun c_1 => ?_)
      · rw [if_pos c_1] at h
        refine lv_iload_n hx hb d_P_thirds_32 rfl (lv_at hl 0 rfl) ?_
        exact W.iret (v := th) hx hb hr (fun t ht hW => ⟨th, rfl, (Option.some.inj h), ht⟩) (fun q h => by cases h) d_P_thirds_33
      · rw [if_neg c_1] at h
        refine lv_aload_n hx hb d_P_thirds_12 rfl (lv_at hl 2 rfl) ?_
        refine lv_iload_n hx hb d_P_thirds_13 rfl (lv_at hl 3 rfl) ?_
        refine lv_iload_n hx hb d_P_thirds_14 rfl (lv_at hl 4 rfl) ?_
        refine lv_iload hx hb d_P_thirds_15 (lv_at hl 1 rfl) ?_
        refine vp_callSi (va_Run.run (va_runV (As := [.int i1, .int i2, .int ix]) (rest := []) ⟨hx, hb, hml, hown, htg⟩ (c_P_fit3 l D ct ws k0 h0 fa fb fc fd fe ff i1 i2 ix hk0  _ rfl) (cwV 3 htg (giV tm_245 tm_247 tm_10 tm_35 g_P_fit3) rfl rfl rfl (by decide +kernel) ⟨Nat.le_of_ble_eq_true rfl, Nat.le_of_ble_eq_true rfl⟩) (preV hP hKK (va_recv hK hP (ci := 0) (q0 := k0) rfl hk0)) rfl rfl hl.1 rfl (lv_room (Nat.le_of_ble_eq_true rfl)) d_P_thirds_17 ⟨Nat.le_of_ble_eq_true rfl, Nat.le_of_ble_eq_true rfl⟩)) (fun r9 hr9 => ?_)
        subst hr9
        refine lv_if_eq (tgt := 26) hx hb d_P_thirds_20 (by decide) (fun c_2 => ?_) (fun c_2 => ?_)
        · rw [if_pos c_2] at h
          refine lv_iinc (v := ix + (1 : Int32)) (lv' := [(4, .int (ix + (1 : Int32))), (3, .int th), (0, .ref h0), (1, .int i1), (2, .int i2)]) hx hb d_P_thirds_26 hl (k := 1) rfl rfl (by decide) rfl (fun ls hl => ?_)
          refine lv_goto (tgt := 5) hx hb d_P_thirds_29 (by decide) ?_
          exact ih th (ix + (1 : Int32)) h ls (lv_sub hl [1, 0, 2, 3, 4] rfl)
        · rw [if_neg c_2] at h
          refine lv_iinc (v := th + (1 : Int32)) (lv' := [(3, .int (th + (1 : Int32))), (4, .int ix), (0, .ref h0), (1, .int i1), (2, .int i2)]) hx hb d_P_thirds_23 hl (k := 0) rfl rfl (by decide) rfl (fun ls hl => ?_)
          refine lv_iinc (v := ix + (1 : Int32)) (lv' := [(4, .int (ix + (1 : Int32))), (3, .int (th + (1 : Int32))), (0, .ref h0), (1, .int i1), (2, .int i2)]) hx hb d_P_thirds_26 hl (k := 1) rfl rfl (by decide) rfl (fun ls hl => ?_)
          refine lv_goto (tgt := 5) hx hb d_P_thirds_29 (by decide) ?_
          exact ih (th + (1 : Int32)) (ix + (1 : Int32)) h ls (lv_sub hl [1, 0, 2, 3, 4] rfl)
  exact L_5 28 (0 : Int32) (0 : Int32) h ls (lv_sub hl [1, 0, 2, 3, 4] rfl)
-- CellBench$Products countKeepers ()I
def lp_P_keepers_29 (fa : Int64) (fb : Int64) (fc : Int64) (fd : Int64) (fe : Int64) (ff : Int64) : Nat → Int32 → Int32 → Int32 → Option (Int32 × Int32 × Int32)
  | 0, _, _, _ => none
  | n + 1, ks, fi, se =>
    if (27 : Int32) ≤ se then (some (ks, fi, se)) else (if (f_P_fit2 fa fb fc fd fe ff fi se) = 0 then (lp_P_keepers_29 fa fb fc fd fe ff n ks fi (se + (1 : Int32))) else (Option.bind (f_P_thirds fa fb fc fd fe ff fi se) (fun z_7 => (lp_P_keepers_29 fa fb fc fd fe ff n (ks + z_7) fi (se + (1 : Int32))))))
def lp_P_keepers_4 (fa : Int64) (fb : Int64) (fc : Int64) (fd : Int64) (fe : Int64) (ff : Int64) : Nat → Int32 → Int32 → Option (Int32)
  | 0, _, _ => none
  | n + 1, ks, fi =>
    if (27 : Int32) ≤ fi then (some ks) else (if (lg_cmp (f_P_colp fa fb fc fd fe ff fi fi) fa) = 0 then (Option.bind (lp_P_keepers_29 fa fb fc fd fe ff 28 ks fi (0 : Int32)) (fun z_12 => (lp_P_keepers_4 fa fb fc fd fe ff n z_12.1 (z_12.2.1 + (1 : Int32))))) else (lp_P_keepers_4 fa fb fc fd fe ff n ks (fi + (1 : Int32))))
def f_P_keepers (fa : Int64) (fb : Int64) (fc : Int64) (fd : Int64) (fe : Int64) (ff : Int64) : Option (Int32) :=
    lp_P_keepers_4 fa fb fc fd fe ff 28 (0 : Int32) (0 : Int32)
def w_P_keepers : List Cond := .code y_P_keepers b_P_keepers 4 (some .int) :: GW
abbrev rm_P_keepers : Room := { frames := 4, cells := 0, slots := 0, locals := 101 }
theorem g_P_keepers : GoodIn GW w_P_keepers := gi tm_228
set_option maxHeartbeats 4000000 in
set_option maxRecDepth 100000 in
theorem c_P_keepers (l : Launch) (D : va_G) (ct : CT) (ws : va_W) (k0 : Nat) (h0 : Nat) (fa : Int64) (fb : Int64) (fc : Int64) (fd : Int64) (fe : Int64) (ff : Int64) (hk0 : ws[k0]? = some (h0, .inr (0, [.long fa, .long fb, .long fc, .long fd, .long fe, .long ff])))  (r0 : Int32) (h : f_P_keepers fa fb fc fd fe ff = some r0) : Met l y_P_keepers w_P_keepers rm_P_keepers (va_Pc [.ref h0] (PreP D ct ws)) (vp_Si (fun r => r = r0)) 0 0 (fun _ => False) := by
  refine Met.ofW (cc := b_P_keepers) (maxL := 4) (ret := (some .int)) (by decide) rfl ?_
  intro p e s m args below meth c s₁ B hml hv
  obtain ⟨rfl, hP, hKK⟩ := hv
  have hx := B.exec
  have hb := B.bytes
  have hr := B.returns
  have htg := ht_tl (atoms_spec (ws := w_P_keepers) B.pre)
  have hown : s.vm.findClass R_Products = some m.cls := findClass_of_methodNamed B.named
  have hlocks := B.notSynchronized
  have hK := hKK.1
  have hN := hKK.2.1
  have hO := hKK.2.2
  have hl := lv_entry ([.ref h0]) (n := 4) (Nat.le_of_ble_eq_true rfl)
  rw [lg_entry_eq]
  generalize (lg_sl ([.ref h0]) ++ List.replicate (4 - (lg_sl ([.ref h0])).length) Slot.unset).toArray = ls at hl ⊢
  have hl : lv_has ls 4 [(0, .ref h0)] := hl
  unfold f_P_keepers at h
  refine lv_iconst (v := (0 : Int32)) hx hb d_P_keepers_0 (by decide) ?_
  refine lv_istore_n (lv' := [(1, .int (0 : Int32)), (0, .ref h0)]) hx hb d_P_keepers_1 rfl hl (by decide) rfl (fun ls hl => ?_)
  refine lv_iconst (v := (0 : Int32)) hx hb d_P_keepers_2 (by decide) ?_
  refine lv_istore_n (lv' := [(2, .int (0 : Int32)), (1, .int (0 : Int32)), (0, .ref h0)]) hx hb d_P_keepers_3 rfl hl (by decide) rfl (fun ls hl => ?_)
  have L_29 : ∀ (n : Nat) (ks : Int32) (fi : Int32) (se : Int32) (ks' : Int32) (fi' : Int32) (se' : Int32), lp_P_keepers_29 fa fb fc fd fe ff n ks fi se = some (ks', fi', se') → ∀ (ls : Array Slot), lv_has ls 4 [(1, .int ks), (2, .int fi), (3, .int se), (0, .ref h0)] → (∀ (ls : Array Slot), lv_has ls 4 [(1, .int ks'), (2, .int fi'), (3, .int se'), (0, .ref h0)] → W p l e (headSpec w_P_keepers rm_P_keepers).room s m ([.ref h0] : List Value).toArray below meth c s.heap [] 0 0 (MQ below (vp_Si (fun r => r = r0)) ([.ref h0] : List Value).toArray s 0 0 (fun _ => False)) (F0 m 59 ls [])) → W p l e (headSpec w_P_keepers rm_P_keepers).room s m ([.ref h0] : List Value).toArray below meth c s.heap [] 0 0 (MQ below (vp_Si (fun r => r = r0)) ([.ref h0] : List Value).toArray s 0 0 (fun _ => False)) (F0 m 29 ls []) := by
    intro n
    induction n with
    | zero =>
      intro ks fi se ks' fi' se' h
      rw [lp_P_keepers_29] at h
      cases h
    | succ n ih =>
      intro ks fi se ks' fi' se' h ls hl K
      rw [lp_P_keepers_29] at h
      refine lv_iload_n hx hb d_P_keepers_29 rfl (lv_at hl 2 rfl) ?_
      refine lv_bipush (v := (27 : Int32)) hx hb d_P_keepers_30 (by decide) ?_
      refine lv_icmp_ge (tgt := 59) hx hb d_P_keepers_32 (by decide) (fun c_3 => ?_) (fun c_3 => ?_)
      · rw [if_pos c_3] at h
        cases h
        exact K _ (lv_sub hl [0, 1, 2, 3] rfl)
      · rw [if_neg c_3] at h
        refine lv_aload_n hx hb d_P_keepers_35 rfl (lv_at hl 3 rfl) ?_
        refine lv_iload_n hx hb d_P_keepers_36 rfl (lv_at hl 1 rfl) ?_
        refine lv_iload_n hx hb d_P_keepers_37 rfl (lv_at hl 2 rfl) ?_
        refine vp_callSi (va_Run.run (va_runV (As := [.int fi, .int se]) (rest := []) ⟨hx, hb, hml, hown, htg⟩ (c_P_fit2 l D ct ws k0 h0 fa fb fc fd fe ff fi se hk0  _ rfl) (cwV 2 htg (giV tm_237 tm_239 tm_8 tm_35 g_P_fit2) rfl rfl rfl (by decide +kernel) ⟨Nat.le_of_ble_eq_true rfl, Nat.le_of_ble_eq_true rfl⟩) (preV hP hKK (va_recv hK hP (ci := 0) (q0 := k0) rfl hk0)) rfl rfl hl.1 rfl (lv_room (Nat.le_of_ble_eq_true rfl)) d_P_keepers_38 ⟨Nat.le_of_ble_eq_true rfl, Nat.le_of_ble_eq_true rfl⟩)) (fun r9 hr9 => ?_)
        subst hr9
        refine lv_if_eq (tgt := 53) hx hb d_P_keepers_41 (by decide) (fun c_4 => ?_) (fun c_4 => ?_)
        · rw [if_pos c_4] at h
          refine lv_iinc (v := se + (1 : Int32)) (lv' := [(3, .int (se + (1 : Int32))), (1, .int ks), (2, .int fi), (0, .ref h0)]) hx hb d_P_keepers_53 hl (k := 2) rfl rfl (by decide) rfl (fun ls hl => ?_)
          refine lv_goto (tgt := 29) hx hb d_P_keepers_56 (by decide) ?_
          exact ih ks fi (se + (1 : Int32)) _ _ _ h ls (lv_sub hl [1, 2, 0, 3] rfl) K
        · rw [if_neg c_4] at h
          refine lv_iload_n hx hb d_P_keepers_44 rfl (lv_at hl 0 rfl) ?_
          refine lv_aload_n hx hb d_P_keepers_45 rfl (lv_at hl 3 rfl) ?_
          refine lv_iload_n hx hb d_P_keepers_46 rfl (lv_at hl 1 rfl) ?_
          refine lv_iload_n hx hb d_P_keepers_47 rfl (lv_at hl 2 rfl) ?_
          rcases e_5 : f_P_thirds fa fb fc fd fe ff fi se with _ | v_6
          · rw [e_5] at h; cases h
          rw [e_5, Option.bind_some] at h
          try dsimp only at h
          refine vp_callSi (va_Run.run (va_runV (As := [.int fi, .int se]) (rest := [.int ks]) ⟨hx, hb, hml, hown, htg⟩ (c_P_thirds l D ct ws k0 h0 fa fb fc fd fe ff fi se hk0  _ e_5) (cwV 2 htg (giV tm_241 tm_243 tm_9 tm_35 g_P_thirds) rfl rfl rfl (by decide +kernel) ⟨Nat.le_of_ble_eq_true rfl, Nat.le_of_ble_eq_true rfl⟩) (preV hP hKK (va_recv hK hP (ci := 0) (q0 := k0) rfl hk0)) rfl rfl hl.1 rfl (lv_room (Nat.le_of_ble_eq_true rfl)) d_P_keepers_48 ⟨Nat.le_of_ble_eq_true rfl, Nat.le_of_ble_eq_true rfl⟩)) (fun r9 hr9 => ?_)
          have hr9 := hr9.symm
          subst hr9
          refine lv_iadd hx hb d_P_keepers_51 ?_
          refine lv_istore_n (lv' := [(1, .int (ks + v_6)), (2, .int fi), (3, .int se), (0, .ref h0)]) hx hb d_P_keepers_52 rfl hl (by decide) rfl (fun ls hl => ?_)
          refine lv_iinc (v := se + (1 : Int32)) (lv' := [(3, .int (se + (1 : Int32))), (1, .int (ks + v_6)), (2, .int fi), (0, .ref h0)]) hx hb d_P_keepers_53 hl (k := 2) rfl rfl (by decide) rfl (fun ls hl => ?_)
          refine lv_goto (tgt := 29) hx hb d_P_keepers_56 (by decide) ?_
          exact ih (ks + v_6) fi (se + (1 : Int32)) _ _ _ h ls (lv_sub hl [1, 2, 0, 3] rfl) K
  have L_4 : ∀ (n : Nat) (ks : Int32) (fi : Int32) , lp_P_keepers_4 fa fb fc fd fe ff n ks fi = some r0 → ∀ (ls : Array Slot), lv_has ls 4 [(1, .int ks), (2, .int fi), (0, .ref h0)] → W p l e (headSpec w_P_keepers rm_P_keepers).room s m ([.ref h0] : List Value).toArray below meth c s.heap [] 0 0 (MQ below (vp_Si (fun r => r = r0)) ([.ref h0] : List Value).toArray s 0 0 (fun _ => False)) (F0 m 4 ls []) := by
    intro n
    induction n with
    | zero =>
      intro ks fi  h
      rw [lp_P_keepers_4] at h
      cases h
    | succ n ih =>
      intro ks fi  h ls hl
      rw [lp_P_keepers_4] at h
      refine lv_iload_n hx hb d_P_keepers_4 rfl (lv_at hl 1 rfl) ?_
      refine lv_bipush (v := (27 : Int32)) hx hb d_P_keepers_5 (by decide) ?_
      refine lv_icmp_ge (tgt := 65) hx hb d_P_keepers_7 (by decide) (fun c_1 => ?_) (fun c_1 => ?_)
      · rw [if_pos c_1] at h
        refine lv_iload_n hx hb d_P_keepers_65 rfl (lv_at hl 0 rfl) ?_
        exact W.iret (v := ks) hx hb hr (fun t ht hW => ⟨ks, rfl, (Option.some.inj h), ht⟩) (fun q h => by cases h) d_P_keepers_66
      · rw [if_neg c_1] at h
        refine lv_aload_n hx hb d_P_keepers_10 rfl (lv_at hl 2 rfl) ?_
        refine lv_iload_n hx hb d_P_keepers_11 rfl (lv_at hl 1 rfl) ?_
        refine lv_iload_n hx hb d_P_keepers_12 rfl (lv_at hl 1 rfl) ?_
        refine vp_callSl (va_Run.run (va_runV (As := [.int fi, .int fi]) (rest := []) ⟨hx, hb, hml, hown, htg⟩ (c_P_colp l D ct ws k0 h0 fa fb fc fd fe ff fi fi hk0  _ rfl) (cwV 2 htg (giV tm_229 tm_231 tm_7 tm_35 g_P_colp) rfl rfl rfl (by decide +kernel) ⟨Nat.le_of_ble_eq_true rfl, Nat.le_of_ble_eq_true rfl⟩) (preV hP hKK (va_recv hK hP (ci := 0) (q0 := k0) rfl hk0)) rfl rfl hl.1 rfl (lv_room (Nat.le_of_ble_eq_true rfl)) d_P_keepers_13 ⟨Nat.le_of_ble_eq_true rfl, Nat.le_of_ble_eq_true rfl⟩)) (fun r9 hr9 => ?_)
        subst hr9
        refine lv_aload_n hx hb d_P_keepers_16 rfl (lv_at hl 2 rfl) ?_
        refine va_get (D := D) (ci := 0) (v := .long fa) (C := R_Products) (T := F_Products) (N := 6) hx hb htg i_Products hown hK hP k0 hk0 rfl 0 (by decide) (htg _ tm_133) (fun _ h9 => h9) rfl d_P_keepers_17 ?_
        refine W.lcmp hx hb d_P_keepers_20 ?_
        refine lv_if_eq (tgt := 27) hx hb d_P_keepers_21 (by decide) (fun c_2 => ?_) (fun c_2 => ?_)
        · rw [if_pos c_2] at h
          refine lv_iconst (v := (0 : Int32)) hx hb d_P_keepers_27 (by decide) ?_
          refine lv_istore_n (lv' := [(3, .int (0 : Int32)), (1, .int ks), (2, .int fi), (0, .ref h0)]) hx hb d_P_keepers_28 rfl hl (by decide) rfl (fun ls hl => ?_)
          rcases e_11 : lp_P_keepers_29 fa fb fc fd fe ff 28 ks fi (0 : Int32) with _ | ⟨ks_8, fi_9, se_10⟩
          · rw [e_11] at h; cases h
          rw [e_11, Option.bind_some] at h
          try dsimp only at h
          refine L_29 28 ks fi (0 : Int32) ks_8 fi_9 se_10 e_11 ls (lv_sub hl [1, 2, 0, 3] rfl) (fun ls hl => ?_)
          refine lv_iinc (v := fi_9 + (1 : Int32)) (lv' := [(2, .int (fi_9 + (1 : Int32))), (1, .int ks_8), (3, .int se_10), (0, .ref h0)]) hx hb d_P_keepers_59 hl (k := 1) rfl rfl (by decide) rfl (fun ls hl => ?_)
          refine lv_goto (tgt := 4) hx hb d_P_keepers_62 (by decide) ?_
          exact ih ks_8 (fi_9 + (1 : Int32)) h ls (lv_sub hl [1, 0, 3] rfl)
        · rw [if_neg c_2] at h
          refine lv_goto (tgt := 59) hx hb d_P_keepers_24 (by decide) ?_
          refine lv_iinc (v := fi + (1 : Int32)) (lv' := [(2, .int (fi + (1 : Int32))), (1, .int ks), (0, .ref h0)]) hx hb d_P_keepers_59 hl (k := 1) rfl rfl (by decide) rfl (fun ls hl => ?_)
          refine lv_goto (tgt := 4) hx hb d_P_keepers_62 (by decide) ?_
          exact ih ks (fi + (1 : Int32)) h ls (lv_sub hl [1, 0, 2] rfl)
  exact L_4 28 (0 : Int32) (0 : Int32) h ls (lv_sub hl [1, 0, 2] rfl)
-- CellBench$Products order (LCellBench$Products;)I
def lp_P_order_2 (fa : Int64) (fb : Int64) (fc : Int64) (fd : Int64) (fe : Int64) (ff : Int64) (ga : Int64) (gb : Int64) (gc : Int64) (gd : Int64) (ge : Int64) (gf : Int64) : Nat → Int32 → Option (Int32)
  | 0, _ => none
  | n + 1, wh =>
    if (6 : Int32) ≤ wh then (some (0 : Int32)) else (if (f_Long_cmp (f_P_at fa fb fc fd fe ff wh) (f_P_at ga gb gc gd ge gf wh)) = 0 then (lp_P_order_2 fa fb fc fd fe ff ga gb gc gd ge gf n (wh + (1 : Int32))) else (some (f_Long_cmp (f_P_at fa fb fc fd fe ff wh) (f_P_at ga gb gc gd ge gf wh))))
def f_P_order (fa : Int64) (fb : Int64) (fc : Int64) (fd : Int64) (fe : Int64) (ff : Int64) (ga : Int64) (gb : Int64) (gc : Int64) (gd : Int64) (ge : Int64) (gf : Int64) : Option (Int32) :=
    lp_P_order_2 fa fb fc fd fe ff ga gb gc gd ge gf 7 (0 : Int32)
def w_P_order : List Cond := .code y_P_order b_P_order 4 (some .int) :: GW
abbrev rm_P_order : Room := { frames := 1, cells := 0, slots := 0, locals := 23 }
theorem g_P_order : GoodIn GW w_P_order := gi tm_305
set_option maxHeartbeats 4000000 in
set_option maxRecDepth 100000 in
theorem c_P_order (l : Launch) (D : va_G) (ct : CT) (ws : va_W) (k0 : Nat) (k1 : Nat) (h0 : Nat) (fa : Int64) (fb : Int64) (fc : Int64) (fd : Int64) (fe : Int64) (ff : Int64) (h1 : Nat) (ga : Int64) (gb : Int64) (gc : Int64) (gd : Int64) (ge : Int64) (gf : Int64) (hk0 : ws[k0]? = some (h0, .inr (0, [.long fa, .long fb, .long fc, .long fd, .long fe, .long ff]))) (hk1 : ws[k1]? = some (h1, .inr (0, [.long ga, .long gb, .long gc, .long gd, .long ge, .long gf])))  (r0 : Int32) (h : f_P_order fa fb fc fd fe ff ga gb gc gd ge gf = some r0) : Met l y_P_order w_P_order rm_P_order (va_Pc [.ref h0, .ref h1] (PreP D ct ws)) (vp_Si (fun r => r = r0)) 0 0 (fun _ => False) := by
  refine Met.ofW (cc := b_P_order) (maxL := 4) (ret := (some .int)) (by decide) rfl ?_
  intro p e s m args below meth c s₁ B hml hv
  obtain ⟨rfl, hP, hKK⟩ := hv
  have hx := B.exec
  have hb := B.bytes
  have hr := B.returns
  have htg := ht_tl (atoms_spec (ws := w_P_order) B.pre)
  have hown : s.vm.findClass R_Products = some m.cls := findClass_of_methodNamed B.named
  have hlocks := B.notSynchronized
  have hK := hKK.1
  have hN := hKK.2.1
  have hO := hKK.2.2
  have hl := lv_entry ([.ref h0, .ref h1]) (n := 4) (Nat.le_of_ble_eq_true rfl)
  rw [lg_entry_eq]
  generalize (lg_sl ([.ref h0, .ref h1]) ++ List.replicate (4 - (lg_sl ([.ref h0, .ref h1])).length) Slot.unset).toArray = ls at hl ⊢
  have hl : lv_has ls 4 [(0, .ref h0), (1, .ref h1)] := hl
  unfold f_P_order at h
  refine lv_iconst (v := (0 : Int32)) hx hb d_P_order_0 (by decide) ?_
  refine lv_istore_n (lv' := [(2, .int (0 : Int32)), (0, .ref h0), (1, .ref h1)]) hx hb d_P_order_1 rfl hl (by decide) rfl (fun ls hl => ?_)
  have L_2 : ∀ (n : Nat) (wh : Int32) , lp_P_order_2 fa fb fc fd fe ff ga gb gc gd ge gf n wh = some r0 → ∀ (ls : Array Slot), lv_has ls 4 [(2, .int wh), (0, .ref h0), (1, .ref h1)] → W p l e (headSpec w_P_order rm_P_order).room s m ([.ref h0, .ref h1] : List Value).toArray below meth c s.heap [] 0 0 (MQ below (vp_Si (fun r => r = r0)) ([.ref h0, .ref h1] : List Value).toArray s 0 0 (fun _ => False)) (F0 m 2 ls []) := by
    intro n
    induction n with
    | zero =>
      intro wh  h
      rw [lp_P_order_2] at h
      cases h
    | succ n ih =>
      intro wh  h ls hl
      rw [lp_P_order_2] at h
      refine lv_iload_n hx hb d_P_order_2 rfl (lv_at hl 0 rfl) ?_
      refine lv_bipush (v := (6 : Int32)) hx hb d_P_order_3 (by decide) ?_
      refine lv_icmp_ge (tgt := 34) hx hb d_P_order_5 (by decide) (fun c_1 => ?_) (fun c_1 => ?_)
      · rw [if_pos c_1] at h
        refine lv_iconst (v := (0 : Int32)) hx hb d_P_order_34 (by decide) ?_
        exact W.iret (v := (0 : Int32)) hx hb hr (fun t ht hW => ⟨(0 : Int32), rfl, (Option.some.inj h), ht⟩) (fun q h => by cases h) d_P_order_35
      · rw [if_neg c_1] at h
        refine lv_aload_n hx hb d_P_order_8 rfl (lv_at hl 1 rfl) ?_
        refine lv_iload_n hx hb d_P_order_9 rfl (lv_at hl 0 rfl) ?_
        refine vp_callSl (va_Run.run (va_runV (As := [.int wh]) (rest := []) ⟨hx, hb, hml, hown, htg⟩ (c_P_at l D ct ws k0 h0 fa fb fc fd fe ff wh hk0  _ rfl) (cwV 1 htg (giV tm_306 tm_284 tm_285 tm_35 g_P_at) rfl rfl rfl (by decide +kernel) ⟨Nat.le_of_ble_eq_true rfl, Nat.le_of_ble_eq_true rfl⟩) (preV hP hKK (va_recv hK hP (ci := 0) (q0 := k0) rfl hk0)) rfl rfl hl.1 rfl (lv_room (Nat.le_of_ble_eq_true rfl)) d_P_order_10 ⟨Nat.le_of_ble_eq_true rfl, Nat.le_of_ble_eq_true rfl⟩)) (fun r9 hr9 => ?_)
        subst hr9
        refine lv_aload_n hx hb d_P_order_13 rfl (lv_at hl 2 rfl) ?_
        refine lv_iload_n hx hb d_P_order_14 rfl (lv_at hl 0 rfl) ?_
        refine vp_callSl (va_Run.run (va_runV (As := [.int wh]) (rest := [.long (f_P_at fa fb fc fd fe ff wh)]) ⟨hx, hb, hml, hown, htg⟩ (c_P_at l D ct ws k1 h1 ga gb gc gd ge gf wh hk1  _ rfl) (cwV 1 htg (giV tm_306 tm_284 tm_285 tm_35 g_P_at) rfl rfl rfl (by decide +kernel) ⟨Nat.le_of_ble_eq_true rfl, Nat.le_of_ble_eq_true rfl⟩) (preV hP hKK (va_recv hK hP (ci := 0) (q0 := k1) rfl hk1)) rfl rfl hl.1 rfl (lv_room (Nat.le_of_ble_eq_true rfl)) d_P_order_15 ⟨Nat.le_of_ble_eq_true rfl, Nat.le_of_ble_eq_true rfl⟩)) (fun r9 hr9 => ?_)
        subst hr9
        refine vp_callSi (va_Run.run (va_runS (As := [.long (f_P_at fa fb fc fd fe ff wh), .long (f_P_at ga gb gc gd ge gf wh)]) (rest := []) ⟨hx, hb, hml, hown, htg⟩ (c_Long_cmp l D ct ws  (f_P_at fa fb fc fd fe ff wh) (f_P_at ga gb gc gd ge gf wh)   _ rfl) ⟨callB_of 2 htg g_Long_cmp rfl rfl rfl (htg _ tm_37) (htg _ tm_307) (by decide +kernel) ⟨Nat.le_of_ble_eq_true rfl, Nat.le_of_ble_eq_true rfl⟩, (htg _ tm_200)⟩ (preS hP hKK) rfl rfl hl.1 rfl (lv_room (Nat.le_of_ble_eq_true rfl)) d_P_order_18 ⟨Nat.le_of_ble_eq_true rfl, Nat.le_of_ble_eq_true rfl⟩)) (fun r9 hr9 => ?_)
        subst hr9
        refine lv_istore_n (lv' := [(3, .int (f_Long_cmp (f_P_at fa fb fc fd fe ff wh) (f_P_at ga gb gc gd ge gf wh))), (2, .int wh), (0, .ref h0), (1, .ref h1)]) hx hb d_P_order_21 rfl hl (by decide) rfl (fun ls hl => ?_)
        refine lv_iload_n hx hb d_P_order_22 rfl (lv_at hl 0 rfl) ?_
        refine lv_if_eq (tgt := 28) hx hb d_P_order_23 (by decide) (fun c_2 => ?_) (fun c_2 => ?_)
        · rw [if_pos c_2] at h
          refine lv_iinc (v := wh + (1 : Int32)) (lv' := [(2, .int (wh + (1 : Int32))), (3, .int (f_Long_cmp (f_P_at fa fb fc fd fe ff wh) (f_P_at ga gb gc gd ge gf wh))), (0, .ref h0), (1, .ref h1)]) hx hb d_P_order_28 hl (k := 1) rfl rfl (by decide) rfl (fun ls hl => ?_)
          refine lv_goto (tgt := 2) hx hb d_P_order_31 (by decide) ?_
          exact ih (wh + (1 : Int32)) h ls (lv_sub hl [0, 2, 3] rfl)
        · rw [if_neg c_2] at h
          refine lv_iload_n hx hb d_P_order_26 rfl (lv_at hl 0 rfl) ?_
          exact W.iret (v := f_Long_cmp (f_P_at fa fb fc fd fe ff wh) (f_P_at ga gb gc gd ge gf wh)) hx hb hr (fun t ht hW => ⟨f_Long_cmp (f_P_at fa fb fc fd fe ff wh) (f_P_at ga gb gc gd ge gf wh), rfl, (Option.some.inj h), ht⟩) (fun q h => by cases h) d_P_order_27
  exact L_2 7 (0 : Int32) h ls (lv_sub hl [0, 1, 2] rfl)
-- CellBench$Products <init> (JJJJJJ)V
def f_P_init (n1 : Int64) (n2 : Int64) (n3 : Int64) (n4 : Int64) (n5 : Int64) (n6 : Int64) : Int64 × Int64 × Int64 × Int64 × Int64 × Int64 :=
    (n1, n2, n3, n4, n5, n6)
def w_P_init : List Cond := .code y_P_init b_P_init 13 none :: GW
abbrev rm_P_init : Room := { frames := 1, cells := 0, slots := 0, locals := 12 }
theorem g_P_init : GoodIn GW w_P_init := gi tm_131
set_option maxHeartbeats 4000000 in
set_option maxRecDepth 100000 in
theorem c_P_init (l : Launch) (D : va_G) (ct : CT) (A : Nat → Prop) (wt : va_W)  (h0 : Nat) (fa : Int64) (fb : Int64) (fc : Int64) (fd : Int64) (fe : Int64) (ff : Int64) (n1 : Int64) (n2 : Int64) (n3 : Int64) (n4 : Int64) (n5 : Int64) (n6 : Int64)   (r0 : Int64 × Int64 × Int64 × Int64 × Int64 × Int64) (h : f_P_init n1 n2 n3 n4 n5 n6 = r0) : Met l y_P_init w_P_init rm_P_init (va_Pc [.ref h0, .long n1, .long n2, .long n3, .long n4, .long n5, .long n6] (PreM D ct A ([(h0, .inr (0, [.long fa, .long fb, .long fc, .long fd, .long fe, .long ff]))] ++ wt))) (va_Qv (fun u => u = r0) (fun (u : Int64 × Int64 × Int64 × Int64 × Int64 × Int64) t => match u with | (fa', fb', fc', fd', fe', ff') => va_P D classes ([(h0, .inr (0, [.long fa', .long fb', .long fc', .long fd', .long fe', .long ff']))] ++ wt) t.heap ∧ va_D A ([(h0, .inr (0, [.long fa', .long fb', .long fc', .long fd', .long fe', .long ff']))] ++ wt)) A) 0 0 A := by
  refine Met.ofW (cc := b_P_init) (maxL := 13) (ret := none) (by decide) rfl ?_
  intro p e s m args below meth c s₁ B hml hv
  obtain ⟨rfl, hA, hP, hD, hKK⟩ := hv
  have hx := B.exec
  have hb := B.bytes
  have hr := B.returns
  have htg := ht_tl (atoms_spec (ws := w_P_init) B.pre)
  have hown : s.vm.findClass R_Products = some m.cls := findClass_of_methodNamed B.named
  have hlocks := B.notSynchronized
  have hin : meth.name = "<init>" := (name_of_methodNamed B.named B.method).1
  have hK := hKK.1
  have hN := hKK.2.1
  have hO := hKK.2.2
  have hS : va_S A s.heap s.heap [] := va_S.rf
  have hl := lv_entry ([.ref h0, .long n1, .long n2, .long n3, .long n4, .long n5, .long n6]) (n := 13) (Nat.le_of_ble_eq_true rfl)
  rw [lg_entry_eq]
  generalize (lg_sl ([.ref h0, .long n1, .long n2, .long n3, .long n4, .long n5, .long n6]) ++ List.replicate (13 - (lg_sl ([.ref h0, .long n1, .long n2, .long n3, .long n4, .long n5, .long n6])).length) Slot.unset).toArray = ls at hl ⊢
  have hl : lv_has ls 13 [(0, .ref h0), (1, .long n1), (3, .long n2), (5, .long n3), (7, .long n4), (9, .long n5), (11, .long n6)] := hl
  unfold f_P_init at h
  refine lv_aload_n hx hb d_P_init_0 rfl (lv_at hl 0 rfl) ?_
  refine W.objInit hx hb hown (htg _ tm_132) (htg _ tm_46) (htg _ tm_47) rfl (by rw [hml]; exact hl.1) rfl d_P_init_1 (Nat.le_of_ble_eq_true rfl) (Nat.le_of_ble_eq_true rfl) ?_
  refine W.eq (g2 := F0 m 4 ls []) rfl ?_
  refine lv_aload_n hx hb d_P_init_4 rfl (lv_at hl 0 rfl) ?_
  refine lv_lload_n hx hb d_P_init_5 rfl (lv_at hl 1 rfl) ?_
  refine va_putF (D := D) (ci := 0) (v := .long n1) (ty := .long) (C := R_Products) (T := F_Products) (N := 6) hx hb htg i_Products t_Products t_Products_ok n_Products hown hK hP hD hS 0 rfl rfl 0 (by decide) (htg _ tm_133) (fun _ h9 => h9) rfl hin rfl (by decide +kernel) rfl rfl (Nat.le_of_ble_eq_true rfl) d_P_init_6 (fun H locs hP hD hS => ?_)
  have hP : va_P D classes ([(h0, .inr (0, [.long n1, .long fb, .long fc, .long fd, .long fe, .long ff]))] ++ wt) H := hP
  have hD : va_D A ([(h0, .inr (0, [.long n1, .long fb, .long fc, .long fd, .long fe, .long ff]))] ++ wt) := hD
  refine lv_aload_n hx hb d_P_init_9 rfl (lv_at hl 0 rfl) ?_
  refine lv_lload_n hx hb d_P_init_10 rfl (lv_at hl 2 rfl) ?_
  refine va_putF (D := D) (ci := 0) (v := .long n2) (ty := .long) (C := R_Products) (T := F_Products) (N := 6) hx hb htg i_Products t_Products t_Products_ok n_Products hown hK hP hD hS 0 rfl rfl 1 (by decide) (htg _ tm_135) (fun _ h9 => h9) rfl hin rfl (by decide +kernel) rfl rfl (Nat.le_of_ble_eq_true rfl) d_P_init_11 (fun H locs hP hD hS => ?_)
  have hP : va_P D classes ([(h0, .inr (0, [.long n1, .long n2, .long fc, .long fd, .long fe, .long ff]))] ++ wt) H := hP
  have hD : va_D A ([(h0, .inr (0, [.long n1, .long n2, .long fc, .long fd, .long fe, .long ff]))] ++ wt) := hD
  refine lv_aload_n hx hb d_P_init_14 rfl (lv_at hl 0 rfl) ?_
  refine lv_lload hx hb d_P_init_15 (lv_at hl 3 rfl) ?_
  refine va_putF (D := D) (ci := 0) (v := .long n3) (ty := .long) (C := R_Products) (T := F_Products) (N := 6) hx hb htg i_Products t_Products t_Products_ok n_Products hown hK hP hD hS 0 rfl rfl 2 (by decide) (htg _ tm_137) (fun _ h9 => h9) rfl hin rfl (by decide +kernel) rfl rfl (Nat.le_of_ble_eq_true rfl) d_P_init_17 (fun H locs hP hD hS => ?_)
  have hP : va_P D classes ([(h0, .inr (0, [.long n1, .long n2, .long n3, .long fd, .long fe, .long ff]))] ++ wt) H := hP
  have hD : va_D A ([(h0, .inr (0, [.long n1, .long n2, .long n3, .long fd, .long fe, .long ff]))] ++ wt) := hD
  refine lv_aload_n hx hb d_P_init_20 rfl (lv_at hl 0 rfl) ?_
  refine lv_lload hx hb d_P_init_21 (lv_at hl 4 rfl) ?_
  refine va_putF (D := D) (ci := 0) (v := .long n4) (ty := .long) (C := R_Products) (T := F_Products) (N := 6) hx hb htg i_Products t_Products t_Products_ok n_Products hown hK hP hD hS 0 rfl rfl 3 (by decide) (htg _ tm_139) (fun _ h9 => h9) rfl hin rfl (by decide +kernel) rfl rfl (Nat.le_of_ble_eq_true rfl) d_P_init_23 (fun H locs hP hD hS => ?_)
  have hP : va_P D classes ([(h0, .inr (0, [.long n1, .long n2, .long n3, .long n4, .long fe, .long ff]))] ++ wt) H := hP
  have hD : va_D A ([(h0, .inr (0, [.long n1, .long n2, .long n3, .long n4, .long fe, .long ff]))] ++ wt) := hD
  refine lv_aload_n hx hb d_P_init_26 rfl (lv_at hl 0 rfl) ?_
  refine lv_lload hx hb d_P_init_27 (lv_at hl 5 rfl) ?_
  refine va_putF (D := D) (ci := 0) (v := .long n5) (ty := .long) (C := R_Products) (T := F_Products) (N := 6) hx hb htg i_Products t_Products t_Products_ok n_Products hown hK hP hD hS 0 rfl rfl 4 (by decide) (htg _ tm_141) (fun _ h9 => h9) rfl hin rfl (by decide +kernel) rfl rfl (Nat.le_of_ble_eq_true rfl) d_P_init_29 (fun H locs hP hD hS => ?_)
  have hP : va_P D classes ([(h0, .inr (0, [.long n1, .long n2, .long n3, .long n4, .long n5, .long ff]))] ++ wt) H := hP
  have hD : va_D A ([(h0, .inr (0, [.long n1, .long n2, .long n3, .long n4, .long n5, .long ff]))] ++ wt) := hD
  refine lv_aload_n hx hb d_P_init_32 rfl (lv_at hl 0 rfl) ?_
  refine lv_lload hx hb d_P_init_33 (lv_at hl 6 rfl) ?_
  refine va_putF (D := D) (ci := 0) (v := .long n6) (ty := .long) (C := R_Products) (T := F_Products) (N := 6) hx hb htg i_Products t_Products t_Products_ok n_Products hown hK hP hD hS 0 rfl rfl 5 (by decide) (htg _ tm_143) (fun _ h9 => h9) rfl hin rfl (by decide +kernel) rfl rfl (Nat.le_of_ble_eq_true rfl) d_P_init_35 (fun H locs hP hD hS => ?_)
  have hP : va_P D classes ([(h0, .inr (0, [.long n1, .long n2, .long n3, .long n4, .long n5, .long n6]))] ++ wt) H := hP
  have hD : va_D A ([(h0, .inr (0, [.long n1, .long n2, .long n3, .long n4, .long n5, .long n6]))] ++ wt) := hD
  exact W.vret hx hb hr (fun t ht hW => ⟨⟨(n1, n2, n3, n4, n5, n6), rfl, h, by rw [ht]; exact hP, hD⟩, hS.F ht⟩) hS.2.2 d_P_init_38
end
section
theorem d_R_init_0 : decode b_R_init 0 = .ok (.aload_n 0, 1) := by decide +kernel
theorem d_R_init_1 : decode b_R_init 1 = .ok (.invokespecial 1, 3) := by decide +kernel
theorem d_R_init_4 : decode b_R_init 4 = .ok (.aload_n 0, 1) := by decide +kernel
theorem d_R_init_5 : decode b_R_init 5 = .ok (.iconst 0, 1) := by decide +kernel
theorem d_R_init_6 : decode b_R_init 6 = .ok (.putfield 7, 3) := by decide +kernel
theorem d_R_init_9 : decode b_R_init 9 = .ok (.return_, 1) := by decide +kernel
theorem d_R_setSq_0 : decode b_R_setSq 0 = .ok (.aload_n 0, 1) := by decide +kernel
theorem d_R_setSq_1 : decode b_R_setSq 1 = .ok (.lload_n 1, 1) := by decide +kernel
theorem d_R_setSq_2 : decode b_R_setSq 2 = .ok (.putfield 44, 3) := by decide +kernel
theorem d_R_setSq_5 : decode b_R_setSq 5 = .ok (.aload_n 0, 1) := by decide +kernel
theorem d_R_setSq_6 : decode b_R_setSq 6 = .ok (.lload_n 3, 1) := by decide +kernel
theorem d_R_setSq_7 : decode b_R_setSq 7 = .ok (.putfield 45, 3) := by decide +kernel
theorem d_R_setSq_10 : decode b_R_setSq 10 = .ok (.aload_n 0, 1) := by decide +kernel
theorem d_R_setSq_11 : decode b_R_setSq 11 = .ok (.lload 5, 2) := by decide +kernel
theorem d_R_setSq_13 : decode b_R_setSq 13 = .ok (.putfield 46, 3) := by decide +kernel
theorem d_R_setSq_16 : decode b_R_setSq 16 = .ok (.return_, 1) := by decide +kernel
theorem d_R_setMx_0 : decode b_R_setMx 0 = .ok (.aload_n 0, 1) := by decide +kernel
theorem d_R_setMx_1 : decode b_R_setMx 1 = .ok (.ldc2_w 47, 3) := by decide +kernel
theorem d_R_setMx_4 : decode b_R_setMx 4 = .ok (.lload_n 1, 1) := by decide +kernel
theorem d_R_setMx_5 : decode b_R_setMx 5 = .ok (.lmul, 1) := by decide +kernel
theorem d_R_setMx_6 : decode b_R_setMx 6 = .ok (.putfield 49, 3) := by decide +kernel
theorem d_R_setMx_9 : decode b_R_setMx 9 = .ok (.aload_n 0, 1) := by decide +kernel
theorem d_R_setMx_10 : decode b_R_setMx 10 = .ok (.ldc2_w 47, 3) := by decide +kernel
theorem d_R_setMx_13 : decode b_R_setMx 13 = .ok (.lload_n 3, 1) := by decide +kernel
theorem d_R_setMx_14 : decode b_R_setMx 14 = .ok (.lmul, 1) := by decide +kernel
theorem d_R_setMx_15 : decode b_R_setMx 15 = .ok (.putfield 52, 3) := by decide +kernel
theorem d_R_setMx_18 : decode b_R_setMx 18 = .ok (.aload_n 0, 1) := by decide +kernel
theorem d_R_setMx_19 : decode b_R_setMx 19 = .ok (.ldc2_w 47, 3) := by decide +kernel
theorem d_R_setMx_22 : decode b_R_setMx 22 = .ok (.lload 5, 2) := by decide +kernel
theorem d_R_setMx_24 : decode b_R_setMx 24 = .ok (.lmul, 1) := by decide +kernel
theorem d_R_setMx_25 : decode b_R_setMx 25 = .ok (.putfield 55, 3) := by decide +kernel
theorem d_R_setMx_28 : decode b_R_setMx 28 = .ok (.return_, 1) := by decide +kernel
theorem d_R_shears_0 : decode b_R_shears 0 = .ok (.aload_n 0, 1) := by decide +kernel
theorem d_R_shears_1 : decode b_R_shears 1 = .ok (.getfield 7, 3) := by decide +kernel
theorem d_R_shears_4 : decode b_R_shears 4 = .ok (.ireturn, 1) := by decide +kernel
theorem d_R_at_0 : decode b_R_at 0 = .ok (.iload_n 1, 1) := by decide +kernel
theorem d_R_at_1 : decode b_R_at 1 = .ok (.tableswitch 81 0 5 #[39, 44, 49, 54, 63, 72], 39) := by decide +kernel
theorem d_R_at_40 : decode b_R_at 40 = .ok (.aload_n 0, 1) := by decide +kernel
theorem d_R_at_41 : decode b_R_at 41 = .ok (.getfield 44, 3) := by decide +kernel
theorem d_R_at_44 : decode b_R_at 44 = .ok (.lreturn, 1) := by decide +kernel
theorem d_R_at_45 : decode b_R_at 45 = .ok (.aload_n 0, 1) := by decide +kernel
theorem d_R_at_46 : decode b_R_at 46 = .ok (.getfield 45, 3) := by decide +kernel
theorem d_R_at_49 : decode b_R_at 49 = .ok (.lreturn, 1) := by decide +kernel
theorem d_R_at_50 : decode b_R_at 50 = .ok (.aload_n 0, 1) := by decide +kernel
theorem d_R_at_51 : decode b_R_at 51 = .ok (.getfield 46, 3) := by decide +kernel
theorem d_R_at_54 : decode b_R_at 54 = .ok (.lreturn, 1) := by decide +kernel
theorem d_R_at_55 : decode b_R_at 55 = .ok (.aload_n 0, 1) := by decide +kernel
theorem d_R_at_56 : decode b_R_at 56 = .ok (.getfield 49, 3) := by decide +kernel
theorem d_R_at_59 : decode b_R_at 59 = .ok (.ldc2_w 47, 3) := by decide +kernel
theorem d_R_at_62 : decode b_R_at 62 = .ok (.ldiv, 1) := by decide +kernel
theorem d_R_at_63 : decode b_R_at 63 = .ok (.lreturn, 1) := by decide +kernel
theorem d_R_at_64 : decode b_R_at 64 = .ok (.aload_n 0, 1) := by decide +kernel
theorem d_R_at_65 : decode b_R_at 65 = .ok (.getfield 52, 3) := by decide +kernel
theorem d_R_at_68 : decode b_R_at 68 = .ok (.ldc2_w 47, 3) := by decide +kernel
theorem d_R_at_71 : decode b_R_at 71 = .ok (.ldiv, 1) := by decide +kernel
theorem d_R_at_72 : decode b_R_at 72 = .ok (.lreturn, 1) := by decide +kernel
theorem d_R_at_73 : decode b_R_at 73 = .ok (.aload_n 0, 1) := by decide +kernel
theorem d_R_at_74 : decode b_R_at 74 = .ok (.getfield 55, 3) := by decide +kernel
theorem d_R_at_77 : decode b_R_at 77 = .ok (.ldc2_w 47, 3) := by decide +kernel
theorem d_R_at_80 : decode b_R_at 80 = .ok (.ldiv, 1) := by decide +kernel
theorem d_R_at_81 : decode b_R_at 81 = .ok (.lreturn, 1) := by decide +kernel
theorem d_R_at_82 : decode b_R_at 82 = .ok (.lconst 0, 1) := by decide +kernel
theorem d_R_at_83 : decode b_R_at 83 = .ok (.lreturn, 1) := by decide +kernel
theorem d_R_ord1_0 : decode b_R_ord1 0 = .ok (.aload_n 0, 1) := by decide +kernel
theorem d_R_ord1_1 : decode b_R_ord1 1 = .ok (.getfield 44, 3) := by decide +kernel
theorem d_R_ord1_4 : decode b_R_ord1 4 = .ok (.aload_n 0, 1) := by decide +kernel
theorem d_R_ord1_5 : decode b_R_ord1 5 = .ok (.getfield 45, 3) := by decide +kernel
theorem d_R_ord1_8 : decode b_R_ord1 8 = .ok (.lcmp, 1) := by decide +kernel
theorem d_R_ord1_9 : decode b_R_ord1 9 = .ok (.ifCond .gt 33, 3) := by decide +kernel
theorem d_R_ord1_12 : decode b_R_ord1 12 = .ok (.aload_n 0, 1) := by decide +kernel
theorem d_R_ord1_13 : decode b_R_ord1 13 = .ok (.getfield 44, 3) := by decide +kernel
theorem d_R_ord1_16 : decode b_R_ord1 16 = .ok (.aload_n 0, 1) := by decide +kernel
theorem d_R_ord1_17 : decode b_R_ord1 17 = .ok (.getfield 45, 3) := by decide +kernel
theorem d_R_ord1_20 : decode b_R_ord1 20 = .ok (.lcmp, 1) := by decide +kernel
theorem d_R_ord1_21 : decode b_R_ord1 21 = .ok (.ifCond .ne 57, 3) := by decide +kernel
theorem d_R_ord1_24 : decode b_R_ord1 24 = .ok (.aload_n 0, 1) := by decide +kernel
theorem d_R_ord1_25 : decode b_R_ord1 25 = .ok (.getfield 49, 3) := by decide +kernel
theorem d_R_ord1_28 : decode b_R_ord1 28 = .ok (.invokestatic 84, 3) := by decide +kernel
theorem d_R_ord1_31 : decode b_R_ord1 31 = .ok (.aload_n 0, 1) := by decide +kernel
theorem d_R_ord1_32 : decode b_R_ord1 32 = .ok (.getfield 52, 3) := by decide +kernel
theorem d_R_ord1_35 : decode b_R_ord1 35 = .ok (.invokestatic 84, 3) := by decide +kernel
theorem d_R_ord1_38 : decode b_R_ord1 38 = .ok (.lcmp, 1) := by decide +kernel
theorem d_R_ord1_39 : decode b_R_ord1 39 = .ok (.ifCond .le 39, 3) := by decide +kernel
theorem d_R_ord1_42 : decode b_R_ord1 42 = .ok (.aload_n 0, 1) := by decide +kernel
theorem d_R_ord1_43 : decode b_R_ord1 43 = .ok (.getfield 44, 3) := by decide +kernel
theorem d_R_ord1_46 : decode b_R_ord1 46 = .ok (.lstore_n 1, 1) := by decide +kernel
theorem d_R_ord1_47 : decode b_R_ord1 47 = .ok (.aload_n 0, 1) := by decide +kernel
theorem d_R_ord1_48 : decode b_R_ord1 48 = .ok (.aload_n 0, 1) := by decide +kernel
theorem d_R_ord1_49 : decode b_R_ord1 49 = .ok (.getfield 45, 3) := by decide +kernel
theorem d_R_ord1_52 : decode b_R_ord1 52 = .ok (.putfield 44, 3) := by decide +kernel
theorem d_R_ord1_55 : decode b_R_ord1 55 = .ok (.aload_n 0, 1) := by decide +kernel
theorem d_R_ord1_56 : decode b_R_ord1 56 = .ok (.lload_n 1, 1) := by decide +kernel
theorem d_R_ord1_57 : decode b_R_ord1 57 = .ok (.putfield 45, 3) := by decide +kernel
theorem d_R_ord1_60 : decode b_R_ord1 60 = .ok (.aload_n 0, 1) := by decide +kernel
theorem d_R_ord1_61 : decode b_R_ord1 61 = .ok (.getfield 49, 3) := by decide +kernel
theorem d_R_ord1_64 : decode b_R_ord1 64 = .ok (.lstore_n 3, 1) := by decide +kernel
theorem d_R_ord1_65 : decode b_R_ord1 65 = .ok (.aload_n 0, 1) := by decide +kernel
theorem d_R_ord1_66 : decode b_R_ord1 66 = .ok (.aload_n 0, 1) := by decide +kernel
theorem d_R_ord1_67 : decode b_R_ord1 67 = .ok (.getfield 52, 3) := by decide +kernel
theorem d_R_ord1_70 : decode b_R_ord1 70 = .ok (.putfield 49, 3) := by decide +kernel
theorem d_R_ord1_73 : decode b_R_ord1 73 = .ok (.aload_n 0, 1) := by decide +kernel
theorem d_R_ord1_74 : decode b_R_ord1 74 = .ok (.lload_n 3, 1) := by decide +kernel
theorem d_R_ord1_75 : decode b_R_ord1 75 = .ok (.putfield 52, 3) := by decide +kernel
theorem d_R_ord1_78 : decode b_R_ord1 78 = .ok (.return_, 1) := by decide +kernel
theorem d_R_ord2_0 : decode b_R_ord2 0 = .ok (.aload_n 0, 1) := by decide +kernel
theorem d_R_ord2_1 : decode b_R_ord2 1 = .ok (.getfield 45, 3) := by decide +kernel
theorem d_R_ord2_4 : decode b_R_ord2 4 = .ok (.aload_n 0, 1) := by decide +kernel
theorem d_R_ord2_5 : decode b_R_ord2 5 = .ok (.getfield 46, 3) := by decide +kernel
theorem d_R_ord2_8 : decode b_R_ord2 8 = .ok (.lcmp, 1) := by decide +kernel
theorem d_R_ord2_9 : decode b_R_ord2 9 = .ok (.ifCond .gt 33, 3) := by decide +kernel
theorem d_R_ord2_12 : decode b_R_ord2 12 = .ok (.aload_n 0, 1) := by decide +kernel
theorem d_R_ord2_13 : decode b_R_ord2 13 = .ok (.getfield 45, 3) := by decide +kernel
theorem d_R_ord2_16 : decode b_R_ord2 16 = .ok (.aload_n 0, 1) := by decide +kernel
theorem d_R_ord2_17 : decode b_R_ord2 17 = .ok (.getfield 46, 3) := by decide +kernel
theorem d_R_ord2_20 : decode b_R_ord2 20 = .ok (.lcmp, 1) := by decide +kernel
theorem d_R_ord2_21 : decode b_R_ord2 21 = .ok (.ifCond .ne 59, 3) := by decide +kernel
theorem d_R_ord2_24 : decode b_R_ord2 24 = .ok (.aload_n 0, 1) := by decide +kernel
theorem d_R_ord2_25 : decode b_R_ord2 25 = .ok (.getfield 52, 3) := by decide +kernel
theorem d_R_ord2_28 : decode b_R_ord2 28 = .ok (.invokestatic 84, 3) := by decide +kernel
theorem d_R_ord2_31 : decode b_R_ord2 31 = .ok (.aload_n 0, 1) := by decide +kernel
theorem d_R_ord2_32 : decode b_R_ord2 32 = .ok (.getfield 55, 3) := by decide +kernel
theorem d_R_ord2_35 : decode b_R_ord2 35 = .ok (.invokestatic 84, 3) := by decide +kernel
theorem d_R_ord2_38 : decode b_R_ord2 38 = .ok (.lcmp, 1) := by decide +kernel
theorem d_R_ord2_39 : decode b_R_ord2 39 = .ok (.ifCond .le 41, 3) := by decide +kernel
theorem d_R_ord2_42 : decode b_R_ord2 42 = .ok (.aload_n 0, 1) := by decide +kernel
theorem d_R_ord2_43 : decode b_R_ord2 43 = .ok (.getfield 45, 3) := by decide +kernel
theorem d_R_ord2_46 : decode b_R_ord2 46 = .ok (.lstore_n 1, 1) := by decide +kernel
theorem d_R_ord2_47 : decode b_R_ord2 47 = .ok (.aload_n 0, 1) := by decide +kernel
theorem d_R_ord2_48 : decode b_R_ord2 48 = .ok (.aload_n 0, 1) := by decide +kernel
theorem d_R_ord2_49 : decode b_R_ord2 49 = .ok (.getfield 46, 3) := by decide +kernel
theorem d_R_ord2_52 : decode b_R_ord2 52 = .ok (.putfield 45, 3) := by decide +kernel
theorem d_R_ord2_55 : decode b_R_ord2 55 = .ok (.aload_n 0, 1) := by decide +kernel
theorem d_R_ord2_56 : decode b_R_ord2 56 = .ok (.lload_n 1, 1) := by decide +kernel
theorem d_R_ord2_57 : decode b_R_ord2 57 = .ok (.putfield 46, 3) := by decide +kernel
theorem d_R_ord2_60 : decode b_R_ord2 60 = .ok (.aload_n 0, 1) := by decide +kernel
theorem d_R_ord2_61 : decode b_R_ord2 61 = .ok (.getfield 52, 3) := by decide +kernel
theorem d_R_ord2_64 : decode b_R_ord2 64 = .ok (.lstore_n 3, 1) := by decide +kernel
theorem d_R_ord2_65 : decode b_R_ord2 65 = .ok (.aload_n 0, 1) := by decide +kernel
theorem d_R_ord2_66 : decode b_R_ord2 66 = .ok (.aload_n 0, 1) := by decide +kernel
theorem d_R_ord2_67 : decode b_R_ord2 67 = .ok (.getfield 55, 3) := by decide +kernel
theorem d_R_ord2_70 : decode b_R_ord2 70 = .ok (.putfield 52, 3) := by decide +kernel
theorem d_R_ord2_73 : decode b_R_ord2 73 = .ok (.aload_n 0, 1) := by decide +kernel
theorem d_R_ord2_74 : decode b_R_ord2 74 = .ok (.lload_n 3, 1) := by decide +kernel
theorem d_R_ord2_75 : decode b_R_ord2 75 = .ok (.putfield 55, 3) := by decide +kernel
theorem d_R_ord2_78 : decode b_R_ord2 78 = .ok (.iconst 1, 1) := by decide +kernel
theorem d_R_ord2_79 : decode b_R_ord2 79 = .ok (.ireturn, 1) := by decide +kernel
theorem d_R_ord2_80 : decode b_R_ord2 80 = .ok (.iconst 0, 1) := by decide +kernel
theorem d_R_ord2_81 : decode b_R_ord2 81 = .ok (.ireturn, 1) := by decide +kernel
theorem d_R_align_0 : decode b_R_align 0 = .ok (.aload_n 0, 1) := by decide +kernel
theorem d_R_align_1 : decode b_R_align 1 = .ok (.getfield 49, 3) := by decide +kernel
theorem d_R_align_4 : decode b_R_align 4 = .ok (.lconst 0, 1) := by decide +kernel
theorem d_R_align_5 : decode b_R_align 5 = .ok (.invokestatic 90, 3) := by decide +kernel
theorem d_R_align_8 : decode b_R_align 8 = .ok (.aload_n 0, 1) := by decide +kernel
theorem d_R_align_9 : decode b_R_align 9 = .ok (.getfield 52, 3) := by decide +kernel
theorem d_R_align_12 : decode b_R_align 12 = .ok (.lconst 0, 1) := by decide +kernel
theorem d_R_align_13 : decode b_R_align 13 = .ok (.invokestatic 90, 3) := by decide +kernel
theorem d_R_align_16 : decode b_R_align 16 = .ok (.imul, 1) := by decide +kernel
theorem d_R_align_17 : decode b_R_align 17 = .ok (.aload_n 0, 1) := by decide +kernel
theorem d_R_align_18 : decode b_R_align 18 = .ok (.getfield 55, 3) := by decide +kernel
theorem d_R_align_21 : decode b_R_align 21 = .ok (.lconst 0, 1) := by decide +kernel
theorem d_R_align_22 : decode b_R_align 22 = .ok (.invokestatic 90, 3) := by decide +kernel
theorem d_R_align_25 : decode b_R_align 25 = .ok (.imul, 1) := by decide +kernel
theorem d_R_align_26 : decode b_R_align 26 = .ok (.istore_n 1, 1) := by decide +kernel
theorem d_R_align_27 : decode b_R_align 27 = .ok (.iload_n 1, 1) := by decide +kernel
theorem d_R_align_28 : decode b_R_align 28 = .ok (.ifCond .le 7, 3) := by decide +kernel
theorem d_R_align_31 : decode b_R_align 31 = .ok (.iconst 1, 1) := by decide +kernel
theorem d_R_align_32 : decode b_R_align 32 = .ok (.goto 4, 3) := by decide +kernel
theorem d_R_align_35 : decode b_R_align 35 = .ok (.iconst (-1), 1) := by decide +kernel
theorem d_R_align_36 : decode b_R_align 36 = .ok (.istore_n 2, 1) := by decide +kernel
theorem d_R_align_37 : decode b_R_align 37 = .ok (.aload_n 0, 1) := by decide +kernel
theorem d_R_align_38 : decode b_R_align 38 = .ok (.iload_n 2, 1) := by decide +kernel
theorem d_R_align_39 : decode b_R_align 39 = .ok (.i2l, 1) := by decide +kernel
theorem d_R_align_40 : decode b_R_align 40 = .ok (.aload_n 0, 1) := by decide +kernel
theorem d_R_align_41 : decode b_R_align 41 = .ok (.getfield 49, 3) := by decide +kernel
theorem d_R_align_44 : decode b_R_align 44 = .ok (.invokestatic 84, 3) := by decide +kernel
theorem d_R_align_47 : decode b_R_align 47 = .ok (.lmul, 1) := by decide +kernel
theorem d_R_align_48 : decode b_R_align 48 = .ok (.putfield 49, 3) := by decide +kernel
theorem d_R_align_51 : decode b_R_align 51 = .ok (.aload_n 0, 1) := by decide +kernel
theorem d_R_align_52 : decode b_R_align 52 = .ok (.iload_n 2, 1) := by decide +kernel
theorem d_R_align_53 : decode b_R_align 53 = .ok (.i2l, 1) := by decide +kernel
theorem d_R_align_54 : decode b_R_align 54 = .ok (.aload_n 0, 1) := by decide +kernel
theorem d_R_align_55 : decode b_R_align 55 = .ok (.getfield 52, 3) := by decide +kernel
theorem d_R_align_58 : decode b_R_align 58 = .ok (.invokestatic 84, 3) := by decide +kernel
theorem d_R_align_61 : decode b_R_align 61 = .ok (.lmul, 1) := by decide +kernel
theorem d_R_align_62 : decode b_R_align 62 = .ok (.putfield 52, 3) := by decide +kernel
theorem d_R_align_65 : decode b_R_align 65 = .ok (.aload_n 0, 1) := by decide +kernel
theorem d_R_align_66 : decode b_R_align 66 = .ok (.iload_n 2, 1) := by decide +kernel
theorem d_R_align_67 : decode b_R_align 67 = .ok (.i2l, 1) := by decide +kernel
theorem d_R_align_68 : decode b_R_align 68 = .ok (.aload_n 0, 1) := by decide +kernel
theorem d_R_align_69 : decode b_R_align 69 = .ok (.getfield 55, 3) := by decide +kernel
theorem d_R_align_72 : decode b_R_align 72 = .ok (.invokestatic 84, 3) := by decide +kernel
theorem d_R_align_75 : decode b_R_align 75 = .ok (.lmul, 1) := by decide +kernel
theorem d_R_align_76 : decode b_R_align 76 = .ok (.putfield 55, 3) := by decide +kernel
theorem d_R_align_79 : decode b_R_align 79 = .ok (.return_, 1) := by decide +kernel
end
section
-- CellBench$Reducer <init> ()V
def f_R_init (ra : Int64) (rb : Int64) (rc : Int64) (rx : Int64) (ry : Int64) (rz : Int64) (rs : Int32) : Int64 × Int64 × Int64 × Int64 × Int64 × Int64 × Int32 :=
    (ra, rb, rc, rx, ry, rz, (0 : Int32))
def w_R_init : List Cond := .code y_R_init b_R_init 1 none :: GW
abbrev rm_R_init : Room := { frames := 1, cells := 0, slots := 0, locals := 12 }
theorem g_R_init : GoodIn GW w_R_init := gi tm_54
set_option maxHeartbeats 4000000 in
set_option maxRecDepth 100000 in
theorem c_R_init (l : Launch) (D : va_G) (ct : CT) (A : Nat → Prop) (wt : va_W)  (h0 : Nat) (ra : Int64) (rb : Int64) (rc : Int64) (rx : Int64) (ry : Int64) (rz : Int64) (rs : Int32)   (r0 : Int64 × Int64 × Int64 × Int64 × Int64 × Int64 × Int32) (h : f_R_init ra rb rc rx ry rz rs = r0) : Met l y_R_init w_R_init rm_R_init (va_Pc [.ref h0] (PreM D ct A ([(h0, .inr (1, [.long ra, .long rb, .long rc, .long rx, .long ry, .long rz, .int rs]))] ++ wt))) (va_Qv (fun u => u = r0) (fun (u : Int64 × Int64 × Int64 × Int64 × Int64 × Int64 × Int32) t => match u with | (ra', rb', rc', rx', ry', rz', rs') => va_P D classes ([(h0, .inr (1, [.long ra', .long rb', .long rc', .long rx', .long ry', .long rz', .int rs']))] ++ wt) t.heap ∧ va_D A ([(h0, .inr (1, [.long ra', .long rb', .long rc', .long rx', .long ry', .long rz', .int rs']))] ++ wt)) A) 0 0 A := by
  refine Met.ofW (cc := b_R_init) (maxL := 1) (ret := none) (by decide) rfl ?_
  intro p e s m args below meth c s₁ B hml hv
  obtain ⟨rfl, hA, hP, hD, hKK⟩ := hv
  have hx := B.exec
  have hb := B.bytes
  have hr := B.returns
  have htg := ht_tl (atoms_spec (ws := w_R_init) B.pre)
  have hown : s.vm.findClass R_Reducer = some m.cls := findClass_of_methodNamed B.named
  have hlocks := B.notSynchronized
  have hin : meth.name = "<init>" := (name_of_methodNamed B.named B.method).1
  have hK := hKK.1
  have hN := hKK.2.1
  have hO := hKK.2.2
  have hS : va_S A s.heap s.heap [] := va_S.rf
  have hl := lv_entry ([.ref h0]) (n := 1) (Nat.le_of_ble_eq_true rfl)
  rw [lg_entry_eq]
  generalize (lg_sl ([.ref h0]) ++ List.replicate (1 - (lg_sl ([.ref h0])).length) Slot.unset).toArray = ls at hl ⊢
  have hl : lv_has ls 1 [(0, .ref h0)] := hl
  unfold f_R_init at h
  refine lv_aload_n hx hb d_R_init_0 rfl (lv_at hl 0 rfl) ?_
  refine W.objInit hx hb hown (htg _ tm_55) (htg _ tm_46) (htg _ tm_47) rfl (by rw [hml]; exact hl.1) rfl d_R_init_1 (Nat.le_of_ble_eq_true rfl) (Nat.le_of_ble_eq_true rfl) ?_
  refine W.eq (g2 := F0 m 4 ls []) rfl ?_
  refine lv_aload_n hx hb d_R_init_4 rfl (lv_at hl 0 rfl) ?_
  refine lv_iconst (v := (0 : Int32)) hx hb d_R_init_5 (by decide) ?_
  refine va_put (D := D) (ci := 1) (v := .int (0 : Int32)) (ty := .int) (C := R_Reducer) (T := F_Reducer) (N := 7) hx hb htg i_Reducer t_Reducer t_Reducer_ok n_Reducer hown hK hP hD hS 0 rfl rfl 6 (by decide) (htg _ tm_62) (fun _ h9 => h9) rfl (by decide +kernel) rfl rfl (Nat.le_of_ble_eq_true rfl) d_R_init_6 (fun H locs hP hD hS => ?_)
  have hP : va_P D classes ([(h0, .inr (1, [.long ra, .long rb, .long rc, .long rx, .long ry, .long rz, .int (0 : Int32)]))] ++ wt) H := hP
  have hD : va_D A ([(h0, .inr (1, [.long ra, .long rb, .long rc, .long rx, .long ry, .long rz, .int (0 : Int32)]))] ++ wt) := hD
  exact W.vret hx hb hr (fun t ht hW => ⟨⟨(ra, rb, rc, rx, ry, rz, (0 : Int32)), rfl, h, by rw [ht]; exact hP, hD⟩, hS.F ht⟩) hS.2.2 d_R_init_9
-- CellBench$Reducer setSquares (JJJ)V
def f_R_setSq (ra : Int64) (rb : Int64) (rc : Int64) (rx : Int64) (ry : Int64) (rz : Int64) (rs : Int32) (n1 : Int64) (n2 : Int64) (n3 : Int64) : Int64 × Int64 × Int64 × Int64 × Int64 × Int64 × Int32 :=
    (n1, n2, n3, rx, ry, rz, rs)
def w_R_setSq : List Cond := .code y_R_setSq b_R_setSq 7 none :: GW
abbrev rm_R_setSq : Room := { frames := 0, cells := 0, slots := 0, locals := 0 }
theorem g_R_setSq : GoodIn GW w_R_setSq := gi tm_173
set_option maxHeartbeats 4000000 in
set_option maxRecDepth 100000 in
theorem c_R_setSq (l : Launch) (D : va_G) (ct : CT) (A : Nat → Prop) (wt : va_W)  (h0 : Nat) (ra : Int64) (rb : Int64) (rc : Int64) (rx : Int64) (ry : Int64) (rz : Int64) (rs : Int32) (n1 : Int64) (n2 : Int64) (n3 : Int64)   (r0 : Int64 × Int64 × Int64 × Int64 × Int64 × Int64 × Int32) (h : f_R_setSq ra rb rc rx ry rz rs n1 n2 n3 = r0) : Met l y_R_setSq w_R_setSq rm_R_setSq (va_Pc [.ref h0, .long n1, .long n2, .long n3] (PreM D ct A ([(h0, .inr (1, [.long ra, .long rb, .long rc, .long rx, .long ry, .long rz, .int rs]))] ++ wt))) (va_Qv (fun u => u = r0) (fun (u : Int64 × Int64 × Int64 × Int64 × Int64 × Int64 × Int32) t => match u with | (ra', rb', rc', rx', ry', rz', rs') => va_P D classes ([(h0, .inr (1, [.long ra', .long rb', .long rc', .long rx', .long ry', .long rz', .int rs']))] ++ wt) t.heap ∧ va_D A ([(h0, .inr (1, [.long ra', .long rb', .long rc', .long rx', .long ry', .long rz', .int rs']))] ++ wt)) A) 0 0 A := by
  refine Met.ofW (cc := b_R_setSq) (maxL := 7) (ret := none) (by decide) rfl ?_
  intro p e s m args below meth c s₁ B hml hv
  obtain ⟨rfl, hA, hP, hD, hKK⟩ := hv
  have hx := B.exec
  have hb := B.bytes
  have hr := B.returns
  have htg := ht_tl (atoms_spec (ws := w_R_setSq) B.pre)
  have hown : s.vm.findClass R_Reducer = some m.cls := findClass_of_methodNamed B.named
  have hlocks := B.notSynchronized
  have hK := hKK.1
  have hN := hKK.2.1
  have hO := hKK.2.2
  have hS : va_S A s.heap s.heap [] := va_S.rf
  have hl := lv_entry ([.ref h0, .long n1, .long n2, .long n3]) (n := 7) (Nat.le_of_ble_eq_true rfl)
  rw [lg_entry_eq]
  generalize (lg_sl ([.ref h0, .long n1, .long n2, .long n3]) ++ List.replicate (7 - (lg_sl ([.ref h0, .long n1, .long n2, .long n3])).length) Slot.unset).toArray = ls at hl ⊢
  have hl : lv_has ls 7 [(0, .ref h0), (1, .long n1), (3, .long n2), (5, .long n3)] := hl
  unfold f_R_setSq at h
  refine lv_aload_n hx hb d_R_setSq_0 rfl (lv_at hl 0 rfl) ?_
  refine lv_lload_n hx hb d_R_setSq_1 rfl (lv_at hl 1 rfl) ?_
  refine va_put (D := D) (ci := 1) (v := .long n1) (ty := .long) (C := R_Reducer) (T := F_Reducer) (N := 7) hx hb htg i_Reducer t_Reducer t_Reducer_ok n_Reducer hown hK hP hD hS 0 rfl rfl 0 (by decide) (htg _ tm_56) (fun _ h9 => h9) rfl (by decide +kernel) rfl rfl (Nat.le_of_ble_eq_true rfl) d_R_setSq_2 (fun H locs hP hD hS => ?_)
  have hP : va_P D classes ([(h0, .inr (1, [.long n1, .long rb, .long rc, .long rx, .long ry, .long rz, .int rs]))] ++ wt) H := hP
  have hD : va_D A ([(h0, .inr (1, [.long n1, .long rb, .long rc, .long rx, .long ry, .long rz, .int rs]))] ++ wt) := hD
  refine lv_aload_n hx hb d_R_setSq_5 rfl (lv_at hl 0 rfl) ?_
  refine lv_lload_n hx hb d_R_setSq_6 rfl (lv_at hl 2 rfl) ?_
  refine va_put (D := D) (ci := 1) (v := .long n2) (ty := .long) (C := R_Reducer) (T := F_Reducer) (N := 7) hx hb htg i_Reducer t_Reducer t_Reducer_ok n_Reducer hown hK hP hD hS 0 rfl rfl 1 (by decide) (htg _ tm_57) (fun _ h9 => h9) rfl (by decide +kernel) rfl rfl (Nat.le_of_ble_eq_true rfl) d_R_setSq_7 (fun H locs hP hD hS => ?_)
  have hP : va_P D classes ([(h0, .inr (1, [.long n1, .long n2, .long rc, .long rx, .long ry, .long rz, .int rs]))] ++ wt) H := hP
  have hD : va_D A ([(h0, .inr (1, [.long n1, .long n2, .long rc, .long rx, .long ry, .long rz, .int rs]))] ++ wt) := hD
  refine lv_aload_n hx hb d_R_setSq_10 rfl (lv_at hl 0 rfl) ?_
  refine lv_lload hx hb d_R_setSq_11 (lv_at hl 3 rfl) ?_
  refine va_put (D := D) (ci := 1) (v := .long n3) (ty := .long) (C := R_Reducer) (T := F_Reducer) (N := 7) hx hb htg i_Reducer t_Reducer t_Reducer_ok n_Reducer hown hK hP hD hS 0 rfl rfl 2 (by decide) (htg _ tm_58) (fun _ h9 => h9) rfl (by decide +kernel) rfl rfl (Nat.le_of_ble_eq_true rfl) d_R_setSq_13 (fun H locs hP hD hS => ?_)
  have hP : va_P D classes ([(h0, .inr (1, [.long n1, .long n2, .long n3, .long rx, .long ry, .long rz, .int rs]))] ++ wt) H := hP
  have hD : va_D A ([(h0, .inr (1, [.long n1, .long n2, .long n3, .long rx, .long ry, .long rz, .int rs]))] ++ wt) := hD
  exact W.vret hx hb hr (fun t ht hW => ⟨⟨(n1, n2, n3, rx, ry, rz, rs), rfl, h, by rw [ht]; exact hP, hD⟩, hS.F ht⟩) hS.2.2 d_R_setSq_16
-- CellBench$Reducer setMixed (JJJ)V
def f_R_setMx (ra : Int64) (rb : Int64) (rc : Int64) (rx : Int64) (ry : Int64) (rz : Int64) (rs : Int32) (n1 : Int64) (n2 : Int64) (n3 : Int64) : Int64 × Int64 × Int64 × Int64 × Int64 × Int64 × Int32 :=
    (ra, rb, rc, (2 : Int64) * n1, (2 : Int64) * n2, (2 : Int64) * n3, rs)
def w_R_setMx : List Cond := .code y_R_setMx b_R_setMx 7 none :: GW
abbrev rm_R_setMx : Room := { frames := 0, cells := 0, slots := 0, locals := 0 }
theorem g_R_setMx : GoodIn GW w_R_setMx := gi tm_177
set_option maxHeartbeats 4000000 in
set_option maxRecDepth 100000 in
theorem c_R_setMx (l : Launch) (D : va_G) (ct : CT) (A : Nat → Prop) (wt : va_W)  (h0 : Nat) (ra : Int64) (rb : Int64) (rc : Int64) (rx : Int64) (ry : Int64) (rz : Int64) (rs : Int32) (n1 : Int64) (n2 : Int64) (n3 : Int64)   (r0 : Int64 × Int64 × Int64 × Int64 × Int64 × Int64 × Int32) (h : f_R_setMx ra rb rc rx ry rz rs n1 n2 n3 = r0) : Met l y_R_setMx w_R_setMx rm_R_setMx (va_Pc [.ref h0, .long n1, .long n2, .long n3] (PreM D ct A ([(h0, .inr (1, [.long ra, .long rb, .long rc, .long rx, .long ry, .long rz, .int rs]))] ++ wt))) (va_Qv (fun u => u = r0) (fun (u : Int64 × Int64 × Int64 × Int64 × Int64 × Int64 × Int32) t => match u with | (ra', rb', rc', rx', ry', rz', rs') => va_P D classes ([(h0, .inr (1, [.long ra', .long rb', .long rc', .long rx', .long ry', .long rz', .int rs']))] ++ wt) t.heap ∧ va_D A ([(h0, .inr (1, [.long ra', .long rb', .long rc', .long rx', .long ry', .long rz', .int rs']))] ++ wt)) A) 0 0 A := by
  refine Met.ofW (cc := b_R_setMx) (maxL := 7) (ret := none) (by decide) rfl ?_
  intro p e s m args below meth c s₁ B hml hv
  obtain ⟨rfl, hA, hP, hD, hKK⟩ := hv
  have hx := B.exec
  have hb := B.bytes
  have hr := B.returns
  have htg := ht_tl (atoms_spec (ws := w_R_setMx) B.pre)
  have hown : s.vm.findClass R_Reducer = some m.cls := findClass_of_methodNamed B.named
  have hlocks := B.notSynchronized
  have hK := hKK.1
  have hN := hKK.2.1
  have hO := hKK.2.2
  have hS : va_S A s.heap s.heap [] := va_S.rf
  have hl := lv_entry ([.ref h0, .long n1, .long n2, .long n3]) (n := 7) (Nat.le_of_ble_eq_true rfl)
  rw [lg_entry_eq]
  generalize (lg_sl ([.ref h0, .long n1, .long n2, .long n3]) ++ List.replicate (7 - (lg_sl ([.ref h0, .long n1, .long n2, .long n3])).length) Slot.unset).toArray = ls at hl ⊢
  have hl : lv_has ls 7 [(0, .ref h0), (1, .long n1), (3, .long n2), (5, .long n3)] := hl
  unfold f_R_setMx at h
  refine lv_aload_n hx hb d_R_setMx_0 rfl (lv_at hl 0 rfl) ?_
  refine lv_ldc2 (v := (2 : Int64)) hx hb hown (htg _ tm_178) d_R_setMx_1 ?_
  refine lv_lload_n hx hb d_R_setMx_4 rfl (lv_at hl 1 rfl) ?_
  refine lv_lmul hx hb d_R_setMx_5 ?_
  refine va_put (D := D) (ci := 1) (v := .long ((2 : Int64) * n1)) (ty := .long) (C := R_Reducer) (T := F_Reducer) (N := 7) hx hb htg i_Reducer t_Reducer t_Reducer_ok n_Reducer hown hK hP hD hS 0 rfl rfl 3 (by decide) (htg _ tm_59) (fun _ h9 => h9) rfl (by decide +kernel) rfl rfl (Nat.le_of_ble_eq_true rfl) d_R_setMx_6 (fun H locs hP hD hS => ?_)
  have hP : va_P D classes ([(h0, .inr (1, [.long ra, .long rb, .long rc, .long ((2 : Int64) * n1), .long ry, .long rz, .int rs]))] ++ wt) H := hP
  have hD : va_D A ([(h0, .inr (1, [.long ra, .long rb, .long rc, .long ((2 : Int64) * n1), .long ry, .long rz, .int rs]))] ++ wt) := hD
  refine lv_aload_n hx hb d_R_setMx_9 rfl (lv_at hl 0 rfl) ?_
  refine lv_ldc2 (v := (2 : Int64)) hx hb hown (htg _ tm_178) d_R_setMx_10 ?_
  refine lv_lload_n hx hb d_R_setMx_13 rfl (lv_at hl 2 rfl) ?_
  refine lv_lmul hx hb d_R_setMx_14 ?_
  refine va_put (D := D) (ci := 1) (v := .long ((2 : Int64) * n2)) (ty := .long) (C := R_Reducer) (T := F_Reducer) (N := 7) hx hb htg i_Reducer t_Reducer t_Reducer_ok n_Reducer hown hK hP hD hS 0 rfl rfl 4 (by decide) (htg _ tm_60) (fun _ h9 => h9) rfl (by decide +kernel) rfl rfl (Nat.le_of_ble_eq_true rfl) d_R_setMx_15 (fun H locs hP hD hS => ?_)
  have hP : va_P D classes ([(h0, .inr (1, [.long ra, .long rb, .long rc, .long ((2 : Int64) * n1), .long ((2 : Int64) * n2), .long rz, .int rs]))] ++ wt) H := hP
  have hD : va_D A ([(h0, .inr (1, [.long ra, .long rb, .long rc, .long ((2 : Int64) * n1), .long ((2 : Int64) * n2), .long rz, .int rs]))] ++ wt) := hD
  refine lv_aload_n hx hb d_R_setMx_18 rfl (lv_at hl 0 rfl) ?_
  refine lv_ldc2 (v := (2 : Int64)) hx hb hown (htg _ tm_178) d_R_setMx_19 ?_
  refine lv_lload hx hb d_R_setMx_22 (lv_at hl 3 rfl) ?_
  refine lv_lmul hx hb d_R_setMx_24 ?_
  refine va_put (D := D) (ci := 1) (v := .long ((2 : Int64) * n3)) (ty := .long) (C := R_Reducer) (T := F_Reducer) (N := 7) hx hb htg i_Reducer t_Reducer t_Reducer_ok n_Reducer hown hK hP hD hS 0 rfl rfl 5 (by decide) (htg _ tm_61) (fun _ h9 => h9) rfl (by decide +kernel) rfl rfl (Nat.le_of_ble_eq_true rfl) d_R_setMx_25 (fun H locs hP hD hS => ?_)
  have hP : va_P D classes ([(h0, .inr (1, [.long ra, .long rb, .long rc, .long ((2 : Int64) * n1), .long ((2 : Int64) * n2), .long ((2 : Int64) * n3), .int rs]))] ++ wt) H := hP
  have hD : va_D A ([(h0, .inr (1, [.long ra, .long rb, .long rc, .long ((2 : Int64) * n1), .long ((2 : Int64) * n2), .long ((2 : Int64) * n3), .int rs]))] ++ wt) := hD
  exact W.vret hx hb hr (fun t ht hW => ⟨⟨(ra, rb, rc, (2 : Int64) * n1, (2 : Int64) * n2, (2 : Int64) * n3, rs), rfl, h, by rw [ht]; exact hP, hD⟩, hS.F ht⟩) hS.2.2 d_R_setMx_28
-- CellBench$Reducer shears ()I
def f_R_shears (ra : Int64) (rb : Int64) (rc : Int64) (rx : Int64) (ry : Int64) (rz : Int64) (rs : Int32) : Int32 :=
    rs
def w_R_shears : List Cond := .code y_R_shears b_R_shears 1 (some .int) :: GW
abbrev rm_R_shears : Room := { frames := 0, cells := 0, slots := 0, locals := 0 }
theorem g_R_shears : GoodIn GW w_R_shears := gi tm_252
set_option maxHeartbeats 4000000 in
set_option maxRecDepth 100000 in
theorem c_R_shears (l : Launch) (D : va_G) (ct : CT) (ws : va_W) (k0 : Nat) (h0 : Nat) (ra : Int64) (rb : Int64) (rc : Int64) (rx : Int64) (ry : Int64) (rz : Int64) (rs : Int32) (hk0 : ws[k0]? = some (h0, .inr (1, [.long ra, .long rb, .long rc, .long rx, .long ry, .long rz, .int rs])))  (r0 : Int32) (h : f_R_shears ra rb rc rx ry rz rs = r0) : Met l y_R_shears w_R_shears rm_R_shears (va_Pc [.ref h0] (PreP D ct ws)) (vp_Si (fun r => r = r0)) 0 0 (fun _ => False) := by
  refine Met.ofW (cc := b_R_shears) (maxL := 1) (ret := (some .int)) (by decide) rfl ?_
  intro p e s m args below meth c s₁ B hml hv
  obtain ⟨rfl, hP, hKK⟩ := hv
  have hx := B.exec
  have hb := B.bytes
  have hr := B.returns
  have htg := ht_tl (atoms_spec (ws := w_R_shears) B.pre)
  have hown : s.vm.findClass R_Reducer = some m.cls := findClass_of_methodNamed B.named
  have hlocks := B.notSynchronized
  have hK := hKK.1
  have hN := hKK.2.1
  have hO := hKK.2.2
  have hl := lv_entry ([.ref h0]) (n := 1) (Nat.le_of_ble_eq_true rfl)
  rw [lg_entry_eq]
  generalize (lg_sl ([.ref h0]) ++ List.replicate (1 - (lg_sl ([.ref h0])).length) Slot.unset).toArray = ls at hl ⊢
  have hl : lv_has ls 1 [(0, .ref h0)] := hl
  unfold f_R_shears at h
  refine lv_aload_n hx hb d_R_shears_0 rfl (lv_at hl 0 rfl) ?_
  refine va_get (D := D) (ci := 1) (v := .int rs) (C := R_Reducer) (T := F_Reducer) (N := 7) hx hb htg i_Reducer hown hK hP k0 hk0 rfl 6 (by decide) (htg _ tm_62) (fun _ h9 => h9) rfl d_R_shears_1 ?_
  exact W.iret (v := rs) hx hb hr (fun t ht hW => ⟨rs, rfl, h, ht⟩) (fun q h => by cases h) d_R_shears_4
-- CellBench$Reducer at (I)J
def f_R_at (ra : Int64) (rb : Int64) (rc : Int64) (rx : Int64) (ry : Int64) (rz : Int64) (rs : Int32) (wh : Int32) : Int64 :=
    if wh = (0 : Int32) then ra else (if wh = (1 : Int32) then rb else (if wh = (2 : Int32) then rc else (if wh = (3 : Int32) then (rx / (2 : Int64)) else (if wh = (4 : Int32) then (ry / (2 : Int64)) else (if wh = (5 : Int32) then (rz / (2 : Int64)) else (0 : Int64))))))
def w_R_at : List Cond := .code y_R_at b_R_at 2 (some .long) :: GW
abbrev rm_R_at : Room := { frames := 0, cells := 0, slots := 0, locals := 0 }
theorem g_R_at : GoodIn GW w_R_at := gi tm_350
set_option maxHeartbeats 4000000 in
set_option maxRecDepth 100000 in
theorem c_R_at (l : Launch) (D : va_G) (ct : CT) (ws : va_W) (k0 : Nat) (h0 : Nat) (ra : Int64) (rb : Int64) (rc : Int64) (rx : Int64) (ry : Int64) (rz : Int64) (rs : Int32) (wh : Int32) (hk0 : ws[k0]? = some (h0, .inr (1, [.long ra, .long rb, .long rc, .long rx, .long ry, .long rz, .int rs])))  (r0 : Int64) (h : f_R_at ra rb rc rx ry rz rs wh = r0) : Met l y_R_at w_R_at rm_R_at (va_Pc [.ref h0, .int wh] (PreP D ct ws)) (vp_Sl (fun r => r = r0)) 0 0 (fun _ => False) := by
  refine Met.ofW (cc := b_R_at) (maxL := 2) (ret := (some .long)) (by decide) rfl ?_
  intro p e s m args below meth c s₁ B hml hv
  obtain ⟨rfl, hP, hKK⟩ := hv
  have hx := B.exec
  have hb := B.bytes
  have hr := B.returns
  have htg := ht_tl (atoms_spec (ws := w_R_at) B.pre)
  have hown : s.vm.findClass R_Reducer = some m.cls := findClass_of_methodNamed B.named
  have hlocks := B.notSynchronized
  have hK := hKK.1
  have hN := hKK.2.1
  have hO := hKK.2.2
  have hl := lv_entry ([.ref h0, .int wh]) (n := 2) (Nat.le_of_ble_eq_true rfl)
  rw [lg_entry_eq]
  generalize (lg_sl ([.ref h0, .int wh]) ++ List.replicate (2 - (lg_sl ([.ref h0, .int wh])).length) Slot.unset).toArray = ls at hl ⊢
  have hl : lv_has ls 2 [(0, .ref h0), (1, .int wh)] := hl
  unfold f_R_at at h
  refine lv_iload_n hx hb d_R_at_0 rfl (lv_at hl 1 rfl) ?_
  by_cases c_1 : wh = (0 : Int32)
  · rw [if_pos c_1] at h
    refine lv_tableIn (off := 39) (tgt := 40) hx hb d_R_at_1 (by rw [c_1]; decide) (by rw [c_1]; decide) (by rw [c_1]; rfl) (by decide) ?_
    refine lv_aload_n hx hb d_R_at_40 rfl (lv_at hl 0 rfl) ?_
    refine va_get (D := D) (ci := 1) (v := .long ra) (C := R_Reducer) (T := F_Reducer) (N := 7) hx hb htg i_Reducer hown hK hP k0 hk0 rfl 0 (by decide) (htg _ tm_56) (fun _ h9 => h9) rfl d_R_at_41 ?_
    exact W.lret (v := ra) hx hb hr (fun t ht hW => ⟨ra, rfl, h, ht⟩) (fun q h => by cases h) d_R_at_44
  rw [if_neg c_1] at h
  by_cases c_2 : wh = (1 : Int32)
  · rw [if_pos c_2] at h
    refine lv_tableIn (off := 44) (tgt := 45) hx hb d_R_at_1 (by rw [c_2]; decide) (by rw [c_2]; decide) (by rw [c_2]; rfl) (by decide) ?_
    refine lv_aload_n hx hb d_R_at_45 rfl (lv_at hl 0 rfl) ?_
    refine va_get (D := D) (ci := 1) (v := .long rb) (C := R_Reducer) (T := F_Reducer) (N := 7) hx hb htg i_Reducer hown hK hP k0 hk0 rfl 1 (by decide) (htg _ tm_57) (fun _ h9 => h9) rfl d_R_at_46 ?_
    exact W.lret (v := rb) hx hb hr (fun t ht hW => ⟨rb, rfl, h, ht⟩) (fun q h => by cases h) d_R_at_49
  rw [if_neg c_2] at h
  by_cases c_3 : wh = (2 : Int32)
  · rw [if_pos c_3] at h
    refine lv_tableIn (off := 49) (tgt := 50) hx hb d_R_at_1 (by rw [c_3]; decide) (by rw [c_3]; decide) (by rw [c_3]; rfl) (by decide) ?_
    refine lv_aload_n hx hb d_R_at_50 rfl (lv_at hl 0 rfl) ?_
    refine va_get (D := D) (ci := 1) (v := .long rc) (C := R_Reducer) (T := F_Reducer) (N := 7) hx hb htg i_Reducer hown hK hP k0 hk0 rfl 2 (by decide) (htg _ tm_58) (fun _ h9 => h9) rfl d_R_at_51 ?_
    exact W.lret (v := rc) hx hb hr (fun t ht hW => ⟨rc, rfl, h, ht⟩) (fun q h => by cases h) d_R_at_54
  rw [if_neg c_3] at h
  by_cases c_4 : wh = (3 : Int32)
  · rw [if_pos c_4] at h
    refine lv_tableIn (off := 54) (tgt := 55) hx hb d_R_at_1 (by rw [c_4]; decide) (by rw [c_4]; decide) (by rw [c_4]; rfl) (by decide) ?_
    refine lv_aload_n hx hb d_R_at_55 rfl (lv_at hl 0 rfl) ?_
    refine va_get (D := D) (ci := 1) (v := .long rx) (C := R_Reducer) (T := F_Reducer) (N := 7) hx hb htg i_Reducer hown hK hP k0 hk0 rfl 3 (by decide) (htg _ tm_59) (fun _ h9 => h9) rfl d_R_at_56 ?_
    refine lv_ldc2 (v := (2 : Int64)) hx hb hown (htg _ tm_178) d_R_at_59 ?_
    refine lv_ldiv hx hb d_R_at_62 (by decide) ?_
    exact W.lret (v := rx / (2 : Int64)) hx hb hr (fun t ht hW => ⟨rx / (2 : Int64), rfl, h, ht⟩) (fun q h => by cases h) d_R_at_63
  rw [if_neg c_4] at h
  by_cases c_5 : wh = (4 : Int32)
  · rw [if_pos c_5] at h
    refine lv_tableIn (off := 63) (tgt := 64) hx hb d_R_at_1 (by rw [c_5]; decide) (by rw [c_5]; decide) (by rw [c_5]; rfl) (by decide) ?_
    refine lv_aload_n hx hb d_R_at_64 rfl (lv_at hl 0 rfl) ?_
    refine va_get (D := D) (ci := 1) (v := .long ry) (C := R_Reducer) (T := F_Reducer) (N := 7) hx hb htg i_Reducer hown hK hP k0 hk0 rfl 4 (by decide) (htg _ tm_60) (fun _ h9 => h9) rfl d_R_at_65 ?_
    refine lv_ldc2 (v := (2 : Int64)) hx hb hown (htg _ tm_178) d_R_at_68 ?_
    refine lv_ldiv hx hb d_R_at_71 (by decide) ?_
    exact W.lret (v := ry / (2 : Int64)) hx hb hr (fun t ht hW => ⟨ry / (2 : Int64), rfl, h, ht⟩) (fun q h => by cases h) d_R_at_72
  rw [if_neg c_5] at h
  by_cases c_6 : wh = (5 : Int32)
  · rw [if_pos c_6] at h
    refine lv_tableIn (off := 72) (tgt := 73) hx hb d_R_at_1 (by rw [c_6]; decide) (by rw [c_6]; decide) (by rw [c_6]; rfl) (by decide) ?_
    refine lv_aload_n hx hb d_R_at_73 rfl (lv_at hl 0 rfl) ?_
    refine va_get (D := D) (ci := 1) (v := .long rz) (C := R_Reducer) (T := F_Reducer) (N := 7) hx hb htg i_Reducer hown hK hP k0 hk0 rfl 5 (by decide) (htg _ tm_61) (fun _ h9 => h9) rfl d_R_at_74 ?_
    refine lv_ldc2 (v := (2 : Int64)) hx hb hown (htg _ tm_178) d_R_at_77 ?_
    refine lv_ldiv hx hb d_R_at_80 (by decide) ?_
    exact W.lret (v := rz / (2 : Int64)) hx hb hr (fun t ht hW => ⟨rz / (2 : Int64), rfl, h, ht⟩) (fun q h => by cases h) d_R_at_81
  rw [if_neg c_6] at h
  refine lv_tableOut (tgt := 82) hx hb d_R_at_1 (by have z0 := lv_neT (a := 0) c_1 (by decide); have z1 := lv_neT (a := 1) c_2 (by decide); have z2 := lv_neT (a := 2) c_3 (by decide); have z3 := lv_neT (a := 3) c_4 (by decide); have z4 := lv_neT (a := 4) c_5 (by decide); have z5 := lv_neT (a := 5) c_6 (by decide); omega) (by decide) ?_
  refine lv_lconst (v := (0 : Int64)) hx hb d_R_at_82 (by decide) ?_
  exact W.lret (v := (0 : Int64)) hx hb hr (fun t ht hW => ⟨(0 : Int64), rfl, h, ht⟩) (fun q h => by cases h) d_R_at_83
-- CellBench$Reducer orderFirstTwo ()V
def f_R_ord1 (ra : Int64) (rb : Int64) (rc : Int64) (rx : Int64) (ry : Int64) (rz : Int64) (rs : Int32) : Int64 × Int64 × Int64 × Int64 × Int64 × Int64 × Int32 :=
    if 0 < (lg_cmp ra rb) then (rb, ra, rc, ry, rx, rz, rs) else (if (lg_cmp ra rb) = 0 then (if (lg_cmp (if 0 < rx then rx else -rx) (if 0 < ry then ry else -ry)) ≤ 0 then (ra, rb, rc, rx, ry, rz, rs) else (rb, ra, rc, ry, rx, rz, rs)) else (ra, rb, rc, rx, ry, rz, rs))
def w_R_ord1 : List Cond := .code y_R_ord1 b_R_ord1 5 none :: GW
abbrev rm_R_ord1 : Room := { frames := 1, cells := 0, slots := 0, locals := 15 }
theorem g_R_ord1 : GoodIn GW w_R_ord1 := gi tm_187
set_option maxHeartbeats 4000000 in
set_option maxRecDepth 100000 in
theorem c_R_ord1 (l : Launch) (D : va_G) (ct : CT) (A : Nat → Prop) (wt : va_W)  (h0 : Nat) (ra : Int64) (rb : Int64) (rc : Int64) (rx : Int64) (ry : Int64) (rz : Int64) (rs : Int32)   (r0 : Int64 × Int64 × Int64 × Int64 × Int64 × Int64 × Int32) (h : f_R_ord1 ra rb rc rx ry rz rs = r0) : Met l y_R_ord1 w_R_ord1 rm_R_ord1 (va_Pc [.ref h0] (PreM D ct A ([(h0, .inr (1, [.long ra, .long rb, .long rc, .long rx, .long ry, .long rz, .int rs]))] ++ wt))) (va_Qv (fun u => u = r0) (fun (u : Int64 × Int64 × Int64 × Int64 × Int64 × Int64 × Int32) t => match u with | (ra', rb', rc', rx', ry', rz', rs') => va_P D classes ([(h0, .inr (1, [.long ra', .long rb', .long rc', .long rx', .long ry', .long rz', .int rs']))] ++ wt) t.heap ∧ va_D A ([(h0, .inr (1, [.long ra', .long rb', .long rc', .long rx', .long ry', .long rz', .int rs']))] ++ wt)) A) 0 0 A := by
  refine Met.ofW (cc := b_R_ord1) (maxL := 5) (ret := none) (by decide) rfl ?_
  intro p e s m args below meth c s₁ B hml hv
  obtain ⟨rfl, hA, hP, hD, hKK⟩ := hv
  have hx := B.exec
  have hb := B.bytes
  have hr := B.returns
  have htg := ht_tl (atoms_spec (ws := w_R_ord1) B.pre)
  have hown : s.vm.findClass R_Reducer = some m.cls := findClass_of_methodNamed B.named
  have hlocks := B.notSynchronized
  have hK := hKK.1
  have hN := hKK.2.1
  have hO := hKK.2.2
  have hS : va_S A s.heap s.heap [] := va_S.rf
  have hl := lv_entry ([.ref h0]) (n := 5) (Nat.le_of_ble_eq_true rfl)
  rw [lg_entry_eq]
  generalize (lg_sl ([.ref h0]) ++ List.replicate (5 - (lg_sl ([.ref h0])).length) Slot.unset).toArray = ls at hl ⊢
  have hl : lv_has ls 5 [(0, .ref h0)] := hl
  unfold f_R_ord1 at h
  refine lv_aload_n hx hb d_R_ord1_0 rfl (lv_at hl 0 rfl) ?_
  refine va_get (D := D) (ci := 1) (v := .long ra) (C := R_Reducer) (T := F_Reducer) (N := 7) hx hb htg i_Reducer hown hK hP 0 rfl rfl 0 (by decide) (htg _ tm_56) (fun _ h9 => h9) rfl d_R_ord1_1 ?_
  refine lv_aload_n hx hb d_R_ord1_4 rfl (lv_at hl 0 rfl) ?_
  refine va_get (D := D) (ci := 1) (v := .long rb) (C := R_Reducer) (T := F_Reducer) (N := 7) hx hb htg i_Reducer hown hK hP 0 rfl rfl 1 (by decide) (htg _ tm_57) (fun _ h9 => h9) rfl d_R_ord1_5 ?_
  refine W.lcmp hx hb d_R_ord1_8 ?_
  refine lv_if_gt (tgt := 42) hx hb d_R_ord1_9 (by decide) (fun c_1 => ?_) (fun c_1 => ?_)
  · rw [if_pos c_1] at h
    refine lv_aload_n hx hb d_R_ord1_42 rfl (lv_at hl 0 rfl) ?_
    refine va_get (D := D) (ci := 1) (v := .long ra) (C := R_Reducer) (T := F_Reducer) (N := 7) hx hb htg i_Reducer hown hK hP 0 rfl rfl 0 (by decide) (htg _ tm_56) (fun _ h9 => h9) rfl d_R_ord1_43 ?_
    refine lv_lstore_n (lv' := [(1, .long ra), (0, .ref h0)]) hx hb d_R_ord1_46 rfl hl (by decide) rfl (fun ls hl => ?_)
    refine lv_aload_n hx hb d_R_ord1_47 rfl (lv_at hl 1 rfl) ?_
    refine lv_aload_n hx hb d_R_ord1_48 rfl (lv_at hl 1 rfl) ?_
    refine va_get (D := D) (ci := 1) (v := .long rb) (C := R_Reducer) (T := F_Reducer) (N := 7) hx hb htg i_Reducer hown hK hP 0 rfl rfl 1 (by decide) (htg _ tm_57) (fun _ h9 => h9) rfl d_R_ord1_49 ?_
    refine va_put (D := D) (ci := 1) (v := .long rb) (ty := .long) (C := R_Reducer) (T := F_Reducer) (N := 7) hx hb htg i_Reducer t_Reducer t_Reducer_ok n_Reducer hown hK hP hD hS 0 rfl rfl 0 (by decide) (htg _ tm_56) (fun _ h9 => h9) rfl (by decide +kernel) rfl rfl (Nat.le_of_ble_eq_true rfl) d_R_ord1_52 (fun H locs hP hD hS => ?_)
    have hP : va_P D classes ([(h0, .inr (1, [.long rb, .long rb, .long rc, .long rx, .long ry, .long rz, .int rs]))] ++ wt) H := hP
    have hD : va_D A ([(h0, .inr (1, [.long rb, .long rb, .long rc, .long rx, .long ry, .long rz, .int rs]))] ++ wt) := hD
    refine lv_aload_n hx hb d_R_ord1_55 rfl (lv_at hl 1 rfl) ?_
    refine lv_lload_n hx hb d_R_ord1_56 rfl (lv_at hl 0 rfl) ?_
    refine va_put (D := D) (ci := 1) (v := .long ra) (ty := .long) (C := R_Reducer) (T := F_Reducer) (N := 7) hx hb htg i_Reducer t_Reducer t_Reducer_ok n_Reducer hown hK hP hD hS 0 rfl rfl 1 (by decide) (htg _ tm_57) (fun _ h9 => h9) rfl (by decide +kernel) rfl rfl (Nat.le_of_ble_eq_true rfl) d_R_ord1_57 (fun H locs hP hD hS => ?_)
    have hP : va_P D classes ([(h0, .inr (1, [.long rb, .long ra, .long rc, .long rx, .long ry, .long rz, .int rs]))] ++ wt) H := hP
    have hD : va_D A ([(h0, .inr (1, [.long rb, .long ra, .long rc, .long rx, .long ry, .long rz, .int rs]))] ++ wt) := hD
    refine lv_aload_n hx hb d_R_ord1_60 rfl (lv_at hl 1 rfl) ?_
    refine va_get (D := D) (ci := 1) (v := .long rx) (C := R_Reducer) (T := F_Reducer) (N := 7) hx hb htg i_Reducer hown hK hP 0 rfl rfl 3 (by decide) (htg _ tm_59) (fun _ h9 => h9) rfl d_R_ord1_61 ?_
    refine lv_lstore_n (lv' := [(3, .long rx), (1, .long ra), (0, .ref h0)]) hx hb d_R_ord1_64 rfl hl (by decide) rfl (fun ls hl => ?_)
    refine lv_aload_n hx hb d_R_ord1_65 rfl (lv_at hl 2 rfl) ?_
    refine lv_aload_n hx hb d_R_ord1_66 rfl (lv_at hl 2 rfl) ?_
    refine va_get (D := D) (ci := 1) (v := .long ry) (C := R_Reducer) (T := F_Reducer) (N := 7) hx hb htg i_Reducer hown hK hP 0 rfl rfl 4 (by decide) (htg _ tm_60) (fun _ h9 => h9) rfl d_R_ord1_67 ?_
    refine va_put (D := D) (ci := 1) (v := .long ry) (ty := .long) (C := R_Reducer) (T := F_Reducer) (N := 7) hx hb htg i_Reducer t_Reducer t_Reducer_ok n_Reducer hown hK hP hD hS 0 rfl rfl 3 (by decide) (htg _ tm_59) (fun _ h9 => h9) rfl (by decide +kernel) rfl rfl (Nat.le_of_ble_eq_true rfl) d_R_ord1_70 (fun H locs hP hD hS => ?_)
    have hP : va_P D classes ([(h0, .inr (1, [.long rb, .long ra, .long rc, .long ry, .long ry, .long rz, .int rs]))] ++ wt) H := hP
    have hD : va_D A ([(h0, .inr (1, [.long rb, .long ra, .long rc, .long ry, .long ry, .long rz, .int rs]))] ++ wt) := hD
    refine lv_aload_n hx hb d_R_ord1_73 rfl (lv_at hl 2 rfl) ?_
    refine lv_lload_n hx hb d_R_ord1_74 rfl (lv_at hl 0 rfl) ?_
    refine va_put (D := D) (ci := 1) (v := .long rx) (ty := .long) (C := R_Reducer) (T := F_Reducer) (N := 7) hx hb htg i_Reducer t_Reducer t_Reducer_ok n_Reducer hown hK hP hD hS 0 rfl rfl 4 (by decide) (htg _ tm_60) (fun _ h9 => h9) rfl (by decide +kernel) rfl rfl (Nat.le_of_ble_eq_true rfl) d_R_ord1_75 (fun H locs hP hD hS => ?_)
    have hP : va_P D classes ([(h0, .inr (1, [.long rb, .long ra, .long rc, .long ry, .long rx, .long rz, .int rs]))] ++ wt) H := hP
    have hD : va_D A ([(h0, .inr (1, [.long rb, .long ra, .long rc, .long ry, .long rx, .long rz, .int rs]))] ++ wt) := hD
    exact W.vret hx hb hr (fun t ht hW => ⟨⟨(rb, ra, rc, ry, rx, rz, rs), rfl, h, by rw [ht]; exact hP, hD⟩, hS.F ht⟩) hS.2.2 d_R_ord1_78
  · rw [if_neg c_1] at h
    refine lv_aload_n hx hb d_R_ord1_12 rfl (lv_at hl 0 rfl) ?_
    refine va_get (D := D) (ci := 1) (v := .long ra) (C := R_Reducer) (T := F_Reducer) (N := 7) hx hb htg i_Reducer hown hK hP 0 rfl rfl 0 (by decide) (htg _ tm_56) (fun _ h9 => h9) rfl d_R_ord1_13 ?_
    refine lv_aload_n hx hb d_R_ord1_16 rfl (lv_at hl 0 rfl) ?_
    refine va_get (D := D) (ci := 1) (v := .long rb) (C := R_Reducer) (T := F_Reducer) (N := 7) hx hb htg i_Reducer hown hK hP 0 rfl rfl 1 (by decide) (htg _ tm_57) (fun _ h9 => h9) rfl d_R_ord1_17 ?_
    refine W.lcmp hx hb d_R_ord1_20 ?_
    refine lv_if_ne (tgt := 78) hx hb d_R_ord1_21 (by decide) (fun c_2 => ?_) (fun c_2 => ?_)
    · rw [if_neg c_2] at h
      exact W.vret hx hb hr (fun t ht hW => ⟨⟨(ra, rb, rc, rx, ry, rz, rs), rfl, h, by rw [ht]; exact hP, hD⟩, hS.F ht⟩) hS.2.2 d_R_ord1_78
    · rw [if_pos c_2] at h
      refine lv_aload_n hx hb d_R_ord1_24 rfl (lv_at hl 0 rfl) ?_
      refine va_get (D := D) (ci := 1) (v := .long rx) (C := R_Reducer) (T := F_Reducer) (N := 7) hx hb htg i_Reducer hown hK hP 0 rfl rfl 3 (by decide) (htg _ tm_59) (fun _ h9 => h9) rfl d_R_ord1_25 ?_
      refine va_mabs_long hx hb (by rw [hml]; exact hl.1.symm) hown (htg _ tm_188) (htg _ tm_189) (htg _ tm_36) (htg _ tm_190) (Nat.le_of_ble_eq_true rfl) (Nat.le_of_ble_eq_true rfl) (Nat.le_of_ble_eq_true rfl) (Nat.le_of_ble_eq_true rfl) d_R_ord1_28 ?_
      refine lv_aload_n hx hb d_R_ord1_31 rfl (lv_at hl 0 rfl) ?_
      refine va_get (D := D) (ci := 1) (v := .long ry) (C := R_Reducer) (T := F_Reducer) (N := 7) hx hb htg i_Reducer hown hK hP 0 rfl rfl 4 (by decide) (htg _ tm_60) (fun _ h9 => h9) rfl d_R_ord1_32 ?_
      refine va_mabs_long hx hb (by rw [hml]; exact hl.1.symm) hown (htg _ tm_188) (htg _ tm_189) (htg _ tm_36) (htg _ tm_190) (Nat.le_of_ble_eq_true rfl) (Nat.le_of_ble_eq_true rfl) (Nat.le_of_ble_eq_true rfl) (Nat.le_of_ble_eq_true rfl) d_R_ord1_35 ?_
      refine W.lcmp hx hb d_R_ord1_38 ?_
      refine lv_if_le (tgt := 78) hx hb d_R_ord1_39 (by decide) (fun c_3 => ?_) (fun c_3 => ?_)
      · rw [if_pos c_3] at h
        exact W.vret hx hb hr (fun t ht hW => ⟨⟨(ra, rb, rc, rx, ry, rz, rs), rfl, h, by rw [ht]; exact hP, hD⟩, hS.F ht⟩) hS.2.2 d_R_ord1_78
      · rw [if_neg c_3] at h
        refine lv_aload_n hx hb d_R_ord1_42 rfl (lv_at hl 0 rfl) ?_
        refine va_get (D := D) (ci := 1) (v := .long ra) (C := R_Reducer) (T := F_Reducer) (N := 7) hx hb htg i_Reducer hown hK hP 0 rfl rfl 0 (by decide) (htg _ tm_56) (fun _ h9 => h9) rfl d_R_ord1_43 ?_
        refine lv_lstore_n (lv' := [(1, .long ra), (0, .ref h0)]) hx hb d_R_ord1_46 rfl hl (by decide) rfl (fun ls hl => ?_)
        refine lv_aload_n hx hb d_R_ord1_47 rfl (lv_at hl 1 rfl) ?_
        refine lv_aload_n hx hb d_R_ord1_48 rfl (lv_at hl 1 rfl) ?_
        refine va_get (D := D) (ci := 1) (v := .long rb) (C := R_Reducer) (T := F_Reducer) (N := 7) hx hb htg i_Reducer hown hK hP 0 rfl rfl 1 (by decide) (htg _ tm_57) (fun _ h9 => h9) rfl d_R_ord1_49 ?_
        refine va_put (D := D) (ci := 1) (v := .long rb) (ty := .long) (C := R_Reducer) (T := F_Reducer) (N := 7) hx hb htg i_Reducer t_Reducer t_Reducer_ok n_Reducer hown hK hP hD hS 0 rfl rfl 0 (by decide) (htg _ tm_56) (fun _ h9 => h9) rfl (by decide +kernel) rfl rfl (Nat.le_of_ble_eq_true rfl) d_R_ord1_52 (fun H locs hP hD hS => ?_)
        have hP : va_P D classes ([(h0, .inr (1, [.long rb, .long rb, .long rc, .long rx, .long ry, .long rz, .int rs]))] ++ wt) H := hP
        have hD : va_D A ([(h0, .inr (1, [.long rb, .long rb, .long rc, .long rx, .long ry, .long rz, .int rs]))] ++ wt) := hD
        refine lv_aload_n hx hb d_R_ord1_55 rfl (lv_at hl 1 rfl) ?_
        refine lv_lload_n hx hb d_R_ord1_56 rfl (lv_at hl 0 rfl) ?_
        refine va_put (D := D) (ci := 1) (v := .long ra) (ty := .long) (C := R_Reducer) (T := F_Reducer) (N := 7) hx hb htg i_Reducer t_Reducer t_Reducer_ok n_Reducer hown hK hP hD hS 0 rfl rfl 1 (by decide) (htg _ tm_57) (fun _ h9 => h9) rfl (by decide +kernel) rfl rfl (Nat.le_of_ble_eq_true rfl) d_R_ord1_57 (fun H locs hP hD hS => ?_)
        have hP : va_P D classes ([(h0, .inr (1, [.long rb, .long ra, .long rc, .long rx, .long ry, .long rz, .int rs]))] ++ wt) H := hP
        have hD : va_D A ([(h0, .inr (1, [.long rb, .long ra, .long rc, .long rx, .long ry, .long rz, .int rs]))] ++ wt) := hD
        refine lv_aload_n hx hb d_R_ord1_60 rfl (lv_at hl 1 rfl) ?_
        refine va_get (D := D) (ci := 1) (v := .long rx) (C := R_Reducer) (T := F_Reducer) (N := 7) hx hb htg i_Reducer hown hK hP 0 rfl rfl 3 (by decide) (htg _ tm_59) (fun _ h9 => h9) rfl d_R_ord1_61 ?_
        refine lv_lstore_n (lv' := [(3, .long rx), (1, .long ra), (0, .ref h0)]) hx hb d_R_ord1_64 rfl hl (by decide) rfl (fun ls hl => ?_)
        refine lv_aload_n hx hb d_R_ord1_65 rfl (lv_at hl 2 rfl) ?_
        refine lv_aload_n hx hb d_R_ord1_66 rfl (lv_at hl 2 rfl) ?_
        refine va_get (D := D) (ci := 1) (v := .long ry) (C := R_Reducer) (T := F_Reducer) (N := 7) hx hb htg i_Reducer hown hK hP 0 rfl rfl 4 (by decide) (htg _ tm_60) (fun _ h9 => h9) rfl d_R_ord1_67 ?_
        refine va_put (D := D) (ci := 1) (v := .long ry) (ty := .long) (C := R_Reducer) (T := F_Reducer) (N := 7) hx hb htg i_Reducer t_Reducer t_Reducer_ok n_Reducer hown hK hP hD hS 0 rfl rfl 3 (by decide) (htg _ tm_59) (fun _ h9 => h9) rfl (by decide +kernel) rfl rfl (Nat.le_of_ble_eq_true rfl) d_R_ord1_70 (fun H locs hP hD hS => ?_)
        have hP : va_P D classes ([(h0, .inr (1, [.long rb, .long ra, .long rc, .long ry, .long ry, .long rz, .int rs]))] ++ wt) H := hP
        have hD : va_D A ([(h0, .inr (1, [.long rb, .long ra, .long rc, .long ry, .long ry, .long rz, .int rs]))] ++ wt) := hD
        refine lv_aload_n hx hb d_R_ord1_73 rfl (lv_at hl 2 rfl) ?_
        refine lv_lload_n hx hb d_R_ord1_74 rfl (lv_at hl 0 rfl) ?_
        refine va_put (D := D) (ci := 1) (v := .long rx) (ty := .long) (C := R_Reducer) (T := F_Reducer) (N := 7) hx hb htg i_Reducer t_Reducer t_Reducer_ok n_Reducer hown hK hP hD hS 0 rfl rfl 4 (by decide) (htg _ tm_60) (fun _ h9 => h9) rfl (by decide +kernel) rfl rfl (Nat.le_of_ble_eq_true rfl) d_R_ord1_75 (fun H locs hP hD hS => ?_)
        have hP : va_P D classes ([(h0, .inr (1, [.long rb, .long ra, .long rc, .long ry, .long rx, .long rz, .int rs]))] ++ wt) H := hP
        have hD : va_D A ([(h0, .inr (1, [.long rb, .long ra, .long rc, .long ry, .long rx, .long rz, .int rs]))] ++ wt) := hD
        exact W.vret hx hb hr (fun t ht hW => ⟨⟨(rb, ra, rc, ry, rx, rz, rs), rfl, h, by rw [ht]; exact hP, hD⟩, hS.F ht⟩) hS.2.2 d_R_ord1_78
-- CellBench$Reducer orderLastTwo ()Z
def f_R_ord2 (ra : Int64) (rb : Int64) (rc : Int64) (rx : Int64) (ry : Int64) (rz : Int64) (rs : Int32) : Int32 × Int64 × Int64 × Int64 × Int64 × Int64 × Int64 × Int32 :=
    if 0 < (lg_cmp rb rc) then ((1 : Int32), ra, rc, rb, rx, rz, ry, rs) else (if (lg_cmp rb rc) = 0 then (if (lg_cmp (if 0 < ry then ry else -ry) (if 0 < rz then rz else -rz)) ≤ 0 then ((0 : Int32), ra, rb, rc, rx, ry, rz, rs) else ((1 : Int32), ra, rc, rb, rx, rz, ry, rs)) else ((0 : Int32), ra, rb, rc, rx, ry, rz, rs))
def w_R_ord2 : List Cond := .code y_R_ord2 b_R_ord2 5 (some .boolean) :: GW
abbrev rm_R_ord2 : Room := { frames := 1, cells := 0, slots := 0, locals := 15 }
theorem g_R_ord2 : GoodIn GW w_R_ord2 := gi tm_194
set_option maxHeartbeats 4000000 in
set_option maxRecDepth 100000 in
theorem c_R_ord2 (l : Launch) (D : va_G) (ct : CT) (A : Nat → Prop) (wt : va_W)  (h0 : Nat) (ra : Int64) (rb : Int64) (rc : Int64) (rx : Int64) (ry : Int64) (rz : Int64) (rs : Int32)   (r0 : Int32 × Int64 × Int64 × Int64 × Int64 × Int64 × Int64 × Int32) (h : f_R_ord2 ra rb rc rx ry rz rs = r0) : Met l y_R_ord2 w_R_ord2 rm_R_ord2 (va_Pc [.ref h0] (PreM D ct A ([(h0, .inr (1, [.long ra, .long rb, .long rc, .long rx, .long ry, .long rz, .int rs]))] ++ wt))) (va_Qi (fun r u => (r, u) = r0) (fun (u : Int64 × Int64 × Int64 × Int64 × Int64 × Int64 × Int32) t => match u with | (ra', rb', rc', rx', ry', rz', rs') => va_P D classes ([(h0, .inr (1, [.long ra', .long rb', .long rc', .long rx', .long ry', .long rz', .int rs']))] ++ wt) t.heap ∧ va_D A ([(h0, .inr (1, [.long ra', .long rb', .long rc', .long rx', .long ry', .long rz', .int rs']))] ++ wt)) A) 0 0 A := by
  refine Met.ofW (cc := b_R_ord2) (maxL := 5) (ret := (some .boolean)) (by decide) rfl ?_
  intro p e s m args below meth c s₁ B hml hv
  obtain ⟨rfl, hA, hP, hD, hKK⟩ := hv
  have hx := B.exec
  have hb := B.bytes
  have hr := B.returns
  have htg := ht_tl (atoms_spec (ws := w_R_ord2) B.pre)
  have hown : s.vm.findClass R_Reducer = some m.cls := findClass_of_methodNamed B.named
  have hlocks := B.notSynchronized
  have hK := hKK.1
  have hN := hKK.2.1
  have hO := hKK.2.2
  have hS : va_S A s.heap s.heap [] := va_S.rf
  have hl := lv_entry ([.ref h0]) (n := 5) (Nat.le_of_ble_eq_true rfl)
  rw [lg_entry_eq]
  generalize (lg_sl ([.ref h0]) ++ List.replicate (5 - (lg_sl ([.ref h0])).length) Slot.unset).toArray = ls at hl ⊢
  have hl : lv_has ls 5 [(0, .ref h0)] := hl
  unfold f_R_ord2 at h
  refine lv_aload_n hx hb d_R_ord2_0 rfl (lv_at hl 0 rfl) ?_
  refine va_get (D := D) (ci := 1) (v := .long rb) (C := R_Reducer) (T := F_Reducer) (N := 7) hx hb htg i_Reducer hown hK hP 0 rfl rfl 1 (by decide) (htg _ tm_57) (fun _ h9 => h9) rfl d_R_ord2_1 ?_
  refine lv_aload_n hx hb d_R_ord2_4 rfl (lv_at hl 0 rfl) ?_
  refine va_get (D := D) (ci := 1) (v := .long rc) (C := R_Reducer) (T := F_Reducer) (N := 7) hx hb htg i_Reducer hown hK hP 0 rfl rfl 2 (by decide) (htg _ tm_58) (fun _ h9 => h9) rfl d_R_ord2_5 ?_
  refine W.lcmp hx hb d_R_ord2_8 ?_
  refine lv_if_gt (tgt := 42) hx hb d_R_ord2_9 (by decide) (fun c_1 => ?_) (fun c_1 => ?_)
  · rw [if_pos c_1] at h
    refine lv_aload_n hx hb d_R_ord2_42 rfl (lv_at hl 0 rfl) ?_
    refine va_get (D := D) (ci := 1) (v := .long rb) (C := R_Reducer) (T := F_Reducer) (N := 7) hx hb htg i_Reducer hown hK hP 0 rfl rfl 1 (by decide) (htg _ tm_57) (fun _ h9 => h9) rfl d_R_ord2_43 ?_
    refine lv_lstore_n (lv' := [(1, .long rb), (0, .ref h0)]) hx hb d_R_ord2_46 rfl hl (by decide) rfl (fun ls hl => ?_)
    refine lv_aload_n hx hb d_R_ord2_47 rfl (lv_at hl 1 rfl) ?_
    refine lv_aload_n hx hb d_R_ord2_48 rfl (lv_at hl 1 rfl) ?_
    refine va_get (D := D) (ci := 1) (v := .long rc) (C := R_Reducer) (T := F_Reducer) (N := 7) hx hb htg i_Reducer hown hK hP 0 rfl rfl 2 (by decide) (htg _ tm_58) (fun _ h9 => h9) rfl d_R_ord2_49 ?_
    refine va_put (D := D) (ci := 1) (v := .long rc) (ty := .long) (C := R_Reducer) (T := F_Reducer) (N := 7) hx hb htg i_Reducer t_Reducer t_Reducer_ok n_Reducer hown hK hP hD hS 0 rfl rfl 1 (by decide) (htg _ tm_57) (fun _ h9 => h9) rfl (by decide +kernel) rfl rfl (Nat.le_of_ble_eq_true rfl) d_R_ord2_52 (fun H locs hP hD hS => ?_)
    have hP : va_P D classes ([(h0, .inr (1, [.long ra, .long rc, .long rc, .long rx, .long ry, .long rz, .int rs]))] ++ wt) H := hP
    have hD : va_D A ([(h0, .inr (1, [.long ra, .long rc, .long rc, .long rx, .long ry, .long rz, .int rs]))] ++ wt) := hD
    refine lv_aload_n hx hb d_R_ord2_55 rfl (lv_at hl 1 rfl) ?_
    refine lv_lload_n hx hb d_R_ord2_56 rfl (lv_at hl 0 rfl) ?_
    refine va_put (D := D) (ci := 1) (v := .long rb) (ty := .long) (C := R_Reducer) (T := F_Reducer) (N := 7) hx hb htg i_Reducer t_Reducer t_Reducer_ok n_Reducer hown hK hP hD hS 0 rfl rfl 2 (by decide) (htg _ tm_58) (fun _ h9 => h9) rfl (by decide +kernel) rfl rfl (Nat.le_of_ble_eq_true rfl) d_R_ord2_57 (fun H locs hP hD hS => ?_)
    have hP : va_P D classes ([(h0, .inr (1, [.long ra, .long rc, .long rb, .long rx, .long ry, .long rz, .int rs]))] ++ wt) H := hP
    have hD : va_D A ([(h0, .inr (1, [.long ra, .long rc, .long rb, .long rx, .long ry, .long rz, .int rs]))] ++ wt) := hD
    refine lv_aload_n hx hb d_R_ord2_60 rfl (lv_at hl 1 rfl) ?_
    refine va_get (D := D) (ci := 1) (v := .long ry) (C := R_Reducer) (T := F_Reducer) (N := 7) hx hb htg i_Reducer hown hK hP 0 rfl rfl 4 (by decide) (htg _ tm_60) (fun _ h9 => h9) rfl d_R_ord2_61 ?_
    refine lv_lstore_n (lv' := [(3, .long ry), (1, .long rb), (0, .ref h0)]) hx hb d_R_ord2_64 rfl hl (by decide) rfl (fun ls hl => ?_)
    refine lv_aload_n hx hb d_R_ord2_65 rfl (lv_at hl 2 rfl) ?_
    refine lv_aload_n hx hb d_R_ord2_66 rfl (lv_at hl 2 rfl) ?_
    refine va_get (D := D) (ci := 1) (v := .long rz) (C := R_Reducer) (T := F_Reducer) (N := 7) hx hb htg i_Reducer hown hK hP 0 rfl rfl 5 (by decide) (htg _ tm_61) (fun _ h9 => h9) rfl d_R_ord2_67 ?_
    refine va_put (D := D) (ci := 1) (v := .long rz) (ty := .long) (C := R_Reducer) (T := F_Reducer) (N := 7) hx hb htg i_Reducer t_Reducer t_Reducer_ok n_Reducer hown hK hP hD hS 0 rfl rfl 4 (by decide) (htg _ tm_60) (fun _ h9 => h9) rfl (by decide +kernel) rfl rfl (Nat.le_of_ble_eq_true rfl) d_R_ord2_70 (fun H locs hP hD hS => ?_)
    have hP : va_P D classes ([(h0, .inr (1, [.long ra, .long rc, .long rb, .long rx, .long rz, .long rz, .int rs]))] ++ wt) H := hP
    have hD : va_D A ([(h0, .inr (1, [.long ra, .long rc, .long rb, .long rx, .long rz, .long rz, .int rs]))] ++ wt) := hD
    refine lv_aload_n hx hb d_R_ord2_73 rfl (lv_at hl 2 rfl) ?_
    refine lv_lload_n hx hb d_R_ord2_74 rfl (lv_at hl 0 rfl) ?_
    refine va_put (D := D) (ci := 1) (v := .long ry) (ty := .long) (C := R_Reducer) (T := F_Reducer) (N := 7) hx hb htg i_Reducer t_Reducer t_Reducer_ok n_Reducer hown hK hP hD hS 0 rfl rfl 5 (by decide) (htg _ tm_61) (fun _ h9 => h9) rfl (by decide +kernel) rfl rfl (Nat.le_of_ble_eq_true rfl) d_R_ord2_75 (fun H locs hP hD hS => ?_)
    have hP : va_P D classes ([(h0, .inr (1, [.long ra, .long rc, .long rb, .long rx, .long rz, .long ry, .int rs]))] ++ wt) H := hP
    have hD : va_D A ([(h0, .inr (1, [.long ra, .long rc, .long rb, .long rx, .long rz, .long ry, .int rs]))] ++ wt) := hD
    refine lv_iconst (v := (1 : Int32)) hx hb d_R_ord2_78 (by decide) ?_
    exact W.zret (v := (1 : Int32)) (ty := .boolean) hx hb hr rfl (fun t ht hW => ⟨⟨(1 : Int32), (ra, rc, rb, rx, rz, ry, rs), rfl, h, by rw [ht]; exact hP, hD⟩, hS.F ht⟩) hS.2.2 d_R_ord2_79
  · rw [if_neg c_1] at h
    refine lv_aload_n hx hb d_R_ord2_12 rfl (lv_at hl 0 rfl) ?_
    refine va_get (D := D) (ci := 1) (v := .long rb) (C := R_Reducer) (T := F_Reducer) (N := 7) hx hb htg i_Reducer hown hK hP 0 rfl rfl 1 (by decide) (htg _ tm_57) (fun _ h9 => h9) rfl d_R_ord2_13 ?_
    refine lv_aload_n hx hb d_R_ord2_16 rfl (lv_at hl 0 rfl) ?_
    refine va_get (D := D) (ci := 1) (v := .long rc) (C := R_Reducer) (T := F_Reducer) (N := 7) hx hb htg i_Reducer hown hK hP 0 rfl rfl 2 (by decide) (htg _ tm_58) (fun _ h9 => h9) rfl d_R_ord2_17 ?_
    refine W.lcmp hx hb d_R_ord2_20 ?_
    refine lv_if_ne (tgt := 80) hx hb d_R_ord2_21 (by decide) (fun c_2 => ?_) (fun c_2 => ?_)
    · rw [if_neg c_2] at h
      refine lv_iconst (v := (0 : Int32)) hx hb d_R_ord2_80 (by decide) ?_
      exact W.zret (v := (0 : Int32)) (ty := .boolean) hx hb hr rfl (fun t ht hW => ⟨⟨(0 : Int32), (ra, rb, rc, rx, ry, rz, rs), rfl, h, by rw [ht]; exact hP, hD⟩, hS.F ht⟩) hS.2.2 d_R_ord2_81
    · rw [if_pos c_2] at h
      refine lv_aload_n hx hb d_R_ord2_24 rfl (lv_at hl 0 rfl) ?_
      refine va_get (D := D) (ci := 1) (v := .long ry) (C := R_Reducer) (T := F_Reducer) (N := 7) hx hb htg i_Reducer hown hK hP 0 rfl rfl 4 (by decide) (htg _ tm_60) (fun _ h9 => h9) rfl d_R_ord2_25 ?_
      refine va_mabs_long hx hb (by rw [hml]; exact hl.1.symm) hown (htg _ tm_188) (htg _ tm_189) (htg _ tm_36) (htg _ tm_190) (Nat.le_of_ble_eq_true rfl) (Nat.le_of_ble_eq_true rfl) (Nat.le_of_ble_eq_true rfl) (Nat.le_of_ble_eq_true rfl) d_R_ord2_28 ?_
      refine lv_aload_n hx hb d_R_ord2_31 rfl (lv_at hl 0 rfl) ?_
      refine va_get (D := D) (ci := 1) (v := .long rz) (C := R_Reducer) (T := F_Reducer) (N := 7) hx hb htg i_Reducer hown hK hP 0 rfl rfl 5 (by decide) (htg _ tm_61) (fun _ h9 => h9) rfl d_R_ord2_32 ?_
      refine va_mabs_long hx hb (by rw [hml]; exact hl.1.symm) hown (htg _ tm_188) (htg _ tm_189) (htg _ tm_36) (htg _ tm_190) (Nat.le_of_ble_eq_true rfl) (Nat.le_of_ble_eq_true rfl) (Nat.le_of_ble_eq_true rfl) (Nat.le_of_ble_eq_true rfl) d_R_ord2_35 ?_
      refine W.lcmp hx hb d_R_ord2_38 ?_
      refine lv_if_le (tgt := 80) hx hb d_R_ord2_39 (by decide) (fun c_3 => ?_) (fun c_3 => ?_)
      · rw [if_pos c_3] at h
        refine lv_iconst (v := (0 : Int32)) hx hb d_R_ord2_80 (by decide) ?_
        exact W.zret (v := (0 : Int32)) (ty := .boolean) hx hb hr rfl (fun t ht hW => ⟨⟨(0 : Int32), (ra, rb, rc, rx, ry, rz, rs), rfl, h, by rw [ht]; exact hP, hD⟩, hS.F ht⟩) hS.2.2 d_R_ord2_81
      · rw [if_neg c_3] at h
        refine lv_aload_n hx hb d_R_ord2_42 rfl (lv_at hl 0 rfl) ?_
        refine va_get (D := D) (ci := 1) (v := .long rb) (C := R_Reducer) (T := F_Reducer) (N := 7) hx hb htg i_Reducer hown hK hP 0 rfl rfl 1 (by decide) (htg _ tm_57) (fun _ h9 => h9) rfl d_R_ord2_43 ?_
        refine lv_lstore_n (lv' := [(1, .long rb), (0, .ref h0)]) hx hb d_R_ord2_46 rfl hl (by decide) rfl (fun ls hl => ?_)
        refine lv_aload_n hx hb d_R_ord2_47 rfl (lv_at hl 1 rfl) ?_
        refine lv_aload_n hx hb d_R_ord2_48 rfl (lv_at hl 1 rfl) ?_
        refine va_get (D := D) (ci := 1) (v := .long rc) (C := R_Reducer) (T := F_Reducer) (N := 7) hx hb htg i_Reducer hown hK hP 0 rfl rfl 2 (by decide) (htg _ tm_58) (fun _ h9 => h9) rfl d_R_ord2_49 ?_
        refine va_put (D := D) (ci := 1) (v := .long rc) (ty := .long) (C := R_Reducer) (T := F_Reducer) (N := 7) hx hb htg i_Reducer t_Reducer t_Reducer_ok n_Reducer hown hK hP hD hS 0 rfl rfl 1 (by decide) (htg _ tm_57) (fun _ h9 => h9) rfl (by decide +kernel) rfl rfl (Nat.le_of_ble_eq_true rfl) d_R_ord2_52 (fun H locs hP hD hS => ?_)
        have hP : va_P D classes ([(h0, .inr (1, [.long ra, .long rc, .long rc, .long rx, .long ry, .long rz, .int rs]))] ++ wt) H := hP
        have hD : va_D A ([(h0, .inr (1, [.long ra, .long rc, .long rc, .long rx, .long ry, .long rz, .int rs]))] ++ wt) := hD
        refine lv_aload_n hx hb d_R_ord2_55 rfl (lv_at hl 1 rfl) ?_
        refine lv_lload_n hx hb d_R_ord2_56 rfl (lv_at hl 0 rfl) ?_
        refine va_put (D := D) (ci := 1) (v := .long rb) (ty := .long) (C := R_Reducer) (T := F_Reducer) (N := 7) hx hb htg i_Reducer t_Reducer t_Reducer_ok n_Reducer hown hK hP hD hS 0 rfl rfl 2 (by decide) (htg _ tm_58) (fun _ h9 => h9) rfl (by decide +kernel) rfl rfl (Nat.le_of_ble_eq_true rfl) d_R_ord2_57 (fun H locs hP hD hS => ?_)
        have hP : va_P D classes ([(h0, .inr (1, [.long ra, .long rc, .long rb, .long rx, .long ry, .long rz, .int rs]))] ++ wt) H := hP
        have hD : va_D A ([(h0, .inr (1, [.long ra, .long rc, .long rb, .long rx, .long ry, .long rz, .int rs]))] ++ wt) := hD
        refine lv_aload_n hx hb d_R_ord2_60 rfl (lv_at hl 1 rfl) ?_
        refine va_get (D := D) (ci := 1) (v := .long ry) (C := R_Reducer) (T := F_Reducer) (N := 7) hx hb htg i_Reducer hown hK hP 0 rfl rfl 4 (by decide) (htg _ tm_60) (fun _ h9 => h9) rfl d_R_ord2_61 ?_
        refine lv_lstore_n (lv' := [(3, .long ry), (1, .long rb), (0, .ref h0)]) hx hb d_R_ord2_64 rfl hl (by decide) rfl (fun ls hl => ?_)
        refine lv_aload_n hx hb d_R_ord2_65 rfl (lv_at hl 2 rfl) ?_
        refine lv_aload_n hx hb d_R_ord2_66 rfl (lv_at hl 2 rfl) ?_
        refine va_get (D := D) (ci := 1) (v := .long rz) (C := R_Reducer) (T := F_Reducer) (N := 7) hx hb htg i_Reducer hown hK hP 0 rfl rfl 5 (by decide) (htg _ tm_61) (fun _ h9 => h9) rfl d_R_ord2_67 ?_
        refine va_put (D := D) (ci := 1) (v := .long rz) (ty := .long) (C := R_Reducer) (T := F_Reducer) (N := 7) hx hb htg i_Reducer t_Reducer t_Reducer_ok n_Reducer hown hK hP hD hS 0 rfl rfl 4 (by decide) (htg _ tm_60) (fun _ h9 => h9) rfl (by decide +kernel) rfl rfl (Nat.le_of_ble_eq_true rfl) d_R_ord2_70 (fun H locs hP hD hS => ?_)
        have hP : va_P D classes ([(h0, .inr (1, [.long ra, .long rc, .long rb, .long rx, .long rz, .long rz, .int rs]))] ++ wt) H := hP
        have hD : va_D A ([(h0, .inr (1, [.long ra, .long rc, .long rb, .long rx, .long rz, .long rz, .int rs]))] ++ wt) := hD
        refine lv_aload_n hx hb d_R_ord2_73 rfl (lv_at hl 2 rfl) ?_
        refine lv_lload_n hx hb d_R_ord2_74 rfl (lv_at hl 0 rfl) ?_
        refine va_put (D := D) (ci := 1) (v := .long ry) (ty := .long) (C := R_Reducer) (T := F_Reducer) (N := 7) hx hb htg i_Reducer t_Reducer t_Reducer_ok n_Reducer hown hK hP hD hS 0 rfl rfl 5 (by decide) (htg _ tm_61) (fun _ h9 => h9) rfl (by decide +kernel) rfl rfl (Nat.le_of_ble_eq_true rfl) d_R_ord2_75 (fun H locs hP hD hS => ?_)
        have hP : va_P D classes ([(h0, .inr (1, [.long ra, .long rc, .long rb, .long rx, .long rz, .long ry, .int rs]))] ++ wt) H := hP
        have hD : va_D A ([(h0, .inr (1, [.long ra, .long rc, .long rb, .long rx, .long rz, .long ry, .int rs]))] ++ wt) := hD
        refine lv_iconst (v := (1 : Int32)) hx hb d_R_ord2_78 (by decide) ?_
        exact W.zret (v := (1 : Int32)) (ty := .boolean) hx hb hr rfl (fun t ht hW => ⟨⟨(1 : Int32), (ra, rc, rb, rx, rz, ry, rs), rfl, h, by rw [ht]; exact hP, hD⟩, hS.F ht⟩) hS.2.2 d_R_ord2_79
-- CellBench$Reducer alignSigns ()V
def f_R_align (ra : Int64) (rb : Int64) (rc : Int64) (rx : Int64) (ry : Int64) (rz : Int64) (rs : Int32) : Int64 × Int64 × Int64 × Int64 × Int64 × Int64 × Int32 :=
    if (((f_Long_cmp rx (0 : Int64)) * (f_Long_cmp ry (0 : Int64))) * (f_Long_cmp rz (0 : Int64))) ≤ 0 then (ra, rb, rc, ((-1 : Int32).toInt64) * (if 0 < rx then rx else -rx), ((-1 : Int32).toInt64) * (if 0 < ry then ry else -ry), ((-1 : Int32).toInt64) * (if 0 < rz then rz else -rz), rs) else (ra, rb, rc, ((1 : Int32).toInt64) * (if 0 < rx then rx else -rx), ((1 : Int32).toInt64) * (if 0 < ry then ry else -ry), ((1 : Int32).toInt64) * (if 0 < rz then rz else -rz), rs)
def w_R_align : List Cond := .code y_R_align b_R_align 3 none :: GW
abbrev rm_R_align : Room := { frames := 1, cells := 0, slots := 0, locals := 23 }
theorem g_R_align : GoodIn GW w_R_align := gi tm_198
set_option maxHeartbeats 4000000 in
set_option maxRecDepth 100000 in
theorem c_R_align (l : Launch) (D : va_G) (ct : CT) (A : Nat → Prop) (wt : va_W)  (h0 : Nat) (ra : Int64) (rb : Int64) (rc : Int64) (rx : Int64) (ry : Int64) (rz : Int64) (rs : Int32)   (r0 : Int64 × Int64 × Int64 × Int64 × Int64 × Int64 × Int32) (h : f_R_align ra rb rc rx ry rz rs = r0) : Met l y_R_align w_R_align rm_R_align (va_Pc [.ref h0] (PreM D ct A ([(h0, .inr (1, [.long ra, .long rb, .long rc, .long rx, .long ry, .long rz, .int rs]))] ++ wt))) (va_Qv (fun u => u = r0) (fun (u : Int64 × Int64 × Int64 × Int64 × Int64 × Int64 × Int32) t => match u with | (ra', rb', rc', rx', ry', rz', rs') => va_P D classes ([(h0, .inr (1, [.long ra', .long rb', .long rc', .long rx', .long ry', .long rz', .int rs']))] ++ wt) t.heap ∧ va_D A ([(h0, .inr (1, [.long ra', .long rb', .long rc', .long rx', .long ry', .long rz', .int rs']))] ++ wt)) A) 0 0 A := by
  refine Met.ofW (cc := b_R_align) (maxL := 3) (ret := none) (by decide) rfl ?_
  intro p e s m args below meth c s₁ B hml hv
  obtain ⟨rfl, hA, hP, hD, hKK⟩ := hv
  have hx := B.exec
  have hb := B.bytes
  have hr := B.returns
  have htg := ht_tl (atoms_spec (ws := w_R_align) B.pre)
  have hown : s.vm.findClass R_Reducer = some m.cls := findClass_of_methodNamed B.named
  have hlocks := B.notSynchronized
  have hK := hKK.1
  have hN := hKK.2.1
  have hO := hKK.2.2
  have hS : va_S A s.heap s.heap [] := va_S.rf
  have hl := lv_entry ([.ref h0]) (n := 3) (Nat.le_of_ble_eq_true rfl)
  rw [lg_entry_eq]
  generalize (lg_sl ([.ref h0]) ++ List.replicate (3 - (lg_sl ([.ref h0])).length) Slot.unset).toArray = ls at hl ⊢
  have hl : lv_has ls 3 [(0, .ref h0)] := hl
  unfold f_R_align at h
  refine lv_aload_n hx hb d_R_align_0 rfl (lv_at hl 0 rfl) ?_
  refine va_get (D := D) (ci := 1) (v := .long rx) (C := R_Reducer) (T := F_Reducer) (N := 7) hx hb htg i_Reducer hown hK hP 0 rfl rfl 3 (by decide) (htg _ tm_59) (fun _ h9 => h9) rfl d_R_align_1 ?_
  refine lv_lconst (v := (0 : Int64)) hx hb d_R_align_4 (by decide) ?_
  refine vp_callSi (va_Run.run (va_runS (As := [.long rx, .long (0 : Int64)]) (rest := []) ⟨hx, hb, hml, hown, htg⟩ (c_Long_cmp l D ct ([(h0, .inr (1, [.long ra, .long rb, .long rc, .long rx, .long ry, .long rz, .int rs]))] ++ wt)  rx (0 : Int64)   _ rfl) ⟨callB_of 2 htg g_Long_cmp rfl rfl rfl (htg _ tm_37) (htg _ tm_199) (by decide +kernel) ⟨Nat.le_of_ble_eq_true rfl, Nat.le_of_ble_eq_true rfl⟩, (htg _ tm_200)⟩ (preS hP hKK) rfl rfl hl.1 rfl (lv_room (Nat.le_of_ble_eq_true rfl)) d_R_align_5 ⟨Nat.le_of_ble_eq_true rfl, Nat.le_of_ble_eq_true rfl⟩)) (fun r9 hr9 => ?_)
  subst hr9
  refine lv_aload_n hx hb d_R_align_8 rfl (lv_at hl 0 rfl) ?_
  refine va_get (D := D) (ci := 1) (v := .long ry) (C := R_Reducer) (T := F_Reducer) (N := 7) hx hb htg i_Reducer hown hK hP 0 rfl rfl 4 (by decide) (htg _ tm_60) (fun _ h9 => h9) rfl d_R_align_9 ?_
  refine lv_lconst (v := (0 : Int64)) hx hb d_R_align_12 (by decide) ?_
  refine vp_callSi (va_Run.run (va_runS (As := [.long ry, .long (0 : Int64)]) (rest := [.int (f_Long_cmp rx (0 : Int64))]) ⟨hx, hb, hml, hown, htg⟩ (c_Long_cmp l D ct ([(h0, .inr (1, [.long ra, .long rb, .long rc, .long rx, .long ry, .long rz, .int rs]))] ++ wt)  ry (0 : Int64)   _ rfl) ⟨callB_of 2 htg g_Long_cmp rfl rfl rfl (htg _ tm_37) (htg _ tm_199) (by decide +kernel) ⟨Nat.le_of_ble_eq_true rfl, Nat.le_of_ble_eq_true rfl⟩, (htg _ tm_200)⟩ (preS hP hKK) rfl rfl hl.1 rfl (lv_room (Nat.le_of_ble_eq_true rfl)) d_R_align_13 ⟨Nat.le_of_ble_eq_true rfl, Nat.le_of_ble_eq_true rfl⟩)) (fun r9 hr9 => ?_)
  subst hr9
  refine lv_imul hx hb d_R_align_16 ?_
  refine lv_aload_n hx hb d_R_align_17 rfl (lv_at hl 0 rfl) ?_
  refine va_get (D := D) (ci := 1) (v := .long rz) (C := R_Reducer) (T := F_Reducer) (N := 7) hx hb htg i_Reducer hown hK hP 0 rfl rfl 5 (by decide) (htg _ tm_61) (fun _ h9 => h9) rfl d_R_align_18 ?_
  refine lv_lconst (v := (0 : Int64)) hx hb d_R_align_21 (by decide) ?_
  refine vp_callSi (va_Run.run (va_runS (As := [.long rz, .long (0 : Int64)]) (rest := [.int ((f_Long_cmp rx (0 : Int64)) * (f_Long_cmp ry (0 : Int64)))]) ⟨hx, hb, hml, hown, htg⟩ (c_Long_cmp l D ct ([(h0, .inr (1, [.long ra, .long rb, .long rc, .long rx, .long ry, .long rz, .int rs]))] ++ wt)  rz (0 : Int64)   _ rfl) ⟨callB_of 2 htg g_Long_cmp rfl rfl rfl (htg _ tm_37) (htg _ tm_199) (by decide +kernel) ⟨Nat.le_of_ble_eq_true rfl, Nat.le_of_ble_eq_true rfl⟩, (htg _ tm_200)⟩ (preS hP hKK) rfl rfl hl.1 rfl (lv_room (Nat.le_of_ble_eq_true rfl)) d_R_align_22 ⟨Nat.le_of_ble_eq_true rfl, Nat.le_of_ble_eq_true rfl⟩)) (fun r9 hr9 => ?_)
  subst hr9
  refine lv_imul hx hb d_R_align_25 ?_
  refine lv_istore_n (lv' := [(1, .int (((f_Long_cmp rx (0 : Int64)) * (f_Long_cmp ry (0 : Int64))) * (f_Long_cmp rz (0 : Int64)))), (0, .ref h0)]) hx hb d_R_align_26 rfl hl (by decide) rfl (fun ls hl => ?_)
  refine lv_iload_n hx hb d_R_align_27 rfl (lv_at hl 0 rfl) ?_
  refine lv_if_le (tgt := 35) hx hb d_R_align_28 (by decide) (fun c_1 => ?_) (fun c_1 => ?_)
  · rw [if_pos c_1] at h
    refine lv_iconst (v := (-1 : Int32)) hx hb d_R_align_35 (by decide) ?_
    refine lv_istore_n (lv' := [(2, .int (-1 : Int32)), (1, .int (((f_Long_cmp rx (0 : Int64)) * (f_Long_cmp ry (0 : Int64))) * (f_Long_cmp rz (0 : Int64)))), (0, .ref h0)]) hx hb d_R_align_36 rfl hl (by decide) rfl (fun ls hl => ?_)
    refine lv_aload_n hx hb d_R_align_37 rfl (lv_at hl 2 rfl) ?_
    refine lv_iload_n hx hb d_R_align_38 rfl (lv_at hl 0 rfl) ?_
    refine lv_i2l hx hb d_R_align_39 rfl ?_
    refine lv_aload_n hx hb d_R_align_40 rfl (lv_at hl 2 rfl) ?_
    refine va_get (D := D) (ci := 1) (v := .long rx) (C := R_Reducer) (T := F_Reducer) (N := 7) hx hb htg i_Reducer hown hK hP 0 rfl rfl 3 (by decide) (htg _ tm_59) (fun _ h9 => h9) rfl d_R_align_41 ?_
    refine va_mabs_long hx hb (by rw [hml]; exact hl.1.symm) hown (htg _ tm_188) (htg _ tm_189) (htg _ tm_36) (htg _ tm_190) (Nat.le_of_ble_eq_true rfl) (Nat.le_of_ble_eq_true rfl) (Nat.le_of_ble_eq_true rfl) (Nat.le_of_ble_eq_true rfl) d_R_align_44 ?_
    refine lv_lmul hx hb d_R_align_47 ?_
    refine va_put (D := D) (ci := 1) (v := .long (((-1 : Int32).toInt64) * (if 0 < rx then rx else -rx))) (ty := .long) (C := R_Reducer) (T := F_Reducer) (N := 7) hx hb htg i_Reducer t_Reducer t_Reducer_ok n_Reducer hown hK hP hD hS 0 rfl rfl 3 (by decide) (htg _ tm_59) (fun _ h9 => h9) rfl (by decide +kernel) rfl rfl (Nat.le_of_ble_eq_true rfl) d_R_align_48 (fun H locs hP hD hS => ?_)
    have hP : va_P D classes ([(h0, .inr (1, [.long ra, .long rb, .long rc, .long (((-1 : Int32).toInt64) * (if 0 < rx then rx else -rx)), .long ry, .long rz, .int rs]))] ++ wt) H := hP
    have hD : va_D A ([(h0, .inr (1, [.long ra, .long rb, .long rc, .long (((-1 : Int32).toInt64) * (if 0 < rx then rx else -rx)), .long ry, .long rz, .int rs]))] ++ wt) := hD
    refine lv_aload_n hx hb d_R_align_51 rfl (lv_at hl 2 rfl) ?_
    refine lv_iload_n hx hb d_R_align_52 rfl (lv_at hl 0 rfl) ?_
    refine lv_i2l hx hb d_R_align_53 rfl ?_
    refine lv_aload_n hx hb d_R_align_54 rfl (lv_at hl 2 rfl) ?_
    refine va_get (D := D) (ci := 1) (v := .long ry) (C := R_Reducer) (T := F_Reducer) (N := 7) hx hb htg i_Reducer hown hK hP 0 rfl rfl 4 (by decide) (htg _ tm_60) (fun _ h9 => h9) rfl d_R_align_55 ?_
    refine va_mabs_long hx hb (by rw [hml]; exact hl.1.symm) hown (htg _ tm_188) (htg _ tm_189) (htg _ tm_36) (htg _ tm_190) (Nat.le_of_ble_eq_true rfl) (Nat.le_of_ble_eq_true rfl) (Nat.le_of_ble_eq_true rfl) (Nat.le_of_ble_eq_true rfl) d_R_align_58 ?_
    refine lv_lmul hx hb d_R_align_61 ?_
    refine va_put (D := D) (ci := 1) (v := .long (((-1 : Int32).toInt64) * (if 0 < ry then ry else -ry))) (ty := .long) (C := R_Reducer) (T := F_Reducer) (N := 7) hx hb htg i_Reducer t_Reducer t_Reducer_ok n_Reducer hown hK hP hD hS 0 rfl rfl 4 (by decide) (htg _ tm_60) (fun _ h9 => h9) rfl (by decide +kernel) rfl rfl (Nat.le_of_ble_eq_true rfl) d_R_align_62 (fun H locs hP hD hS => ?_)
    have hP : va_P D classes ([(h0, .inr (1, [.long ra, .long rb, .long rc, .long (((-1 : Int32).toInt64) * (if 0 < rx then rx else -rx)), .long (((-1 : Int32).toInt64) * (if 0 < ry then ry else -ry)), .long rz, .int rs]))] ++ wt) H := hP
    have hD : va_D A ([(h0, .inr (1, [.long ra, .long rb, .long rc, .long (((-1 : Int32).toInt64) * (if 0 < rx then rx else -rx)), .long (((-1 : Int32).toInt64) * (if 0 < ry then ry else -ry)), .long rz, .int rs]))] ++ wt) := hD
    refine lv_aload_n hx hb d_R_align_65 rfl (lv_at hl 2 rfl) ?_
    refine lv_iload_n hx hb d_R_align_66 rfl (lv_at hl 0 rfl) ?_
    refine lv_i2l hx hb d_R_align_67 rfl ?_
    refine lv_aload_n hx hb d_R_align_68 rfl (lv_at hl 2 rfl) ?_
    refine va_get (D := D) (ci := 1) (v := .long rz) (C := R_Reducer) (T := F_Reducer) (N := 7) hx hb htg i_Reducer hown hK hP 0 rfl rfl 5 (by decide) (htg _ tm_61) (fun _ h9 => h9) rfl d_R_align_69 ?_
    refine va_mabs_long hx hb (by rw [hml]; exact hl.1.symm) hown (htg _ tm_188) (htg _ tm_189) (htg _ tm_36) (htg _ tm_190) (Nat.le_of_ble_eq_true rfl) (Nat.le_of_ble_eq_true rfl) (Nat.le_of_ble_eq_true rfl) (Nat.le_of_ble_eq_true rfl) d_R_align_72 ?_
    refine lv_lmul hx hb d_R_align_75 ?_
    refine va_put (D := D) (ci := 1) (v := .long (((-1 : Int32).toInt64) * (if 0 < rz then rz else -rz))) (ty := .long) (C := R_Reducer) (T := F_Reducer) (N := 7) hx hb htg i_Reducer t_Reducer t_Reducer_ok n_Reducer hown hK hP hD hS 0 rfl rfl 5 (by decide) (htg _ tm_61) (fun _ h9 => h9) rfl (by decide +kernel) rfl rfl (Nat.le_of_ble_eq_true rfl) d_R_align_76 (fun H locs hP hD hS => ?_)
    have hP : va_P D classes ([(h0, .inr (1, [.long ra, .long rb, .long rc, .long (((-1 : Int32).toInt64) * (if 0 < rx then rx else -rx)), .long (((-1 : Int32).toInt64) * (if 0 < ry then ry else -ry)), .long (((-1 : Int32).toInt64) * (if 0 < rz then rz else -rz)), .int rs]))] ++ wt) H := hP
    have hD : va_D A ([(h0, .inr (1, [.long ra, .long rb, .long rc, .long (((-1 : Int32).toInt64) * (if 0 < rx then rx else -rx)), .long (((-1 : Int32).toInt64) * (if 0 < ry then ry else -ry)), .long (((-1 : Int32).toInt64) * (if 0 < rz then rz else -rz)), .int rs]))] ++ wt) := hD
    exact W.vret hx hb hr (fun t ht hW => ⟨⟨(ra, rb, rc, ((-1 : Int32).toInt64) * (if 0 < rx then rx else -rx), ((-1 : Int32).toInt64) * (if 0 < ry then ry else -ry), ((-1 : Int32).toInt64) * (if 0 < rz then rz else -rz), rs), rfl, h, by rw [ht]; exact hP, hD⟩, hS.F ht⟩) hS.2.2 d_R_align_79
  · rw [if_neg c_1] at h
    refine lv_iconst (v := (1 : Int32)) hx hb d_R_align_31 (by decide) ?_
    refine lv_goto (tgt := 36) hx hb d_R_align_32 (by decide) ?_
    refine lv_istore_n (lv' := [(2, .int (1 : Int32)), (1, .int (((f_Long_cmp rx (0 : Int64)) * (f_Long_cmp ry (0 : Int64))) * (f_Long_cmp rz (0 : Int64)))), (0, .ref h0)]) hx hb d_R_align_36 rfl hl (by decide) rfl (fun ls hl => ?_)
    refine lv_aload_n hx hb d_R_align_37 rfl (lv_at hl 2 rfl) ?_
    refine lv_iload_n hx hb d_R_align_38 rfl (lv_at hl 0 rfl) ?_
    refine lv_i2l hx hb d_R_align_39 rfl ?_
    refine lv_aload_n hx hb d_R_align_40 rfl (lv_at hl 2 rfl) ?_
    refine va_get (D := D) (ci := 1) (v := .long rx) (C := R_Reducer) (T := F_Reducer) (N := 7) hx hb htg i_Reducer hown hK hP 0 rfl rfl 3 (by decide) (htg _ tm_59) (fun _ h9 => h9) rfl d_R_align_41 ?_
    refine va_mabs_long hx hb (by rw [hml]; exact hl.1.symm) hown (htg _ tm_188) (htg _ tm_189) (htg _ tm_36) (htg _ tm_190) (Nat.le_of_ble_eq_true rfl) (Nat.le_of_ble_eq_true rfl) (Nat.le_of_ble_eq_true rfl) (Nat.le_of_ble_eq_true rfl) d_R_align_44 ?_
    refine lv_lmul hx hb d_R_align_47 ?_
    refine va_put (D := D) (ci := 1) (v := .long (((1 : Int32).toInt64) * (if 0 < rx then rx else -rx))) (ty := .long) (C := R_Reducer) (T := F_Reducer) (N := 7) hx hb htg i_Reducer t_Reducer t_Reducer_ok n_Reducer hown hK hP hD hS 0 rfl rfl 3 (by decide) (htg _ tm_59) (fun _ h9 => h9) rfl (by decide +kernel) rfl rfl (Nat.le_of_ble_eq_true rfl) d_R_align_48 (fun H locs hP hD hS => ?_)
    have hP : va_P D classes ([(h0, .inr (1, [.long ra, .long rb, .long rc, .long (((1 : Int32).toInt64) * (if 0 < rx then rx else -rx)), .long ry, .long rz, .int rs]))] ++ wt) H := hP
    have hD : va_D A ([(h0, .inr (1, [.long ra, .long rb, .long rc, .long (((1 : Int32).toInt64) * (if 0 < rx then rx else -rx)), .long ry, .long rz, .int rs]))] ++ wt) := hD
    refine lv_aload_n hx hb d_R_align_51 rfl (lv_at hl 2 rfl) ?_
    refine lv_iload_n hx hb d_R_align_52 rfl (lv_at hl 0 rfl) ?_
    refine lv_i2l hx hb d_R_align_53 rfl ?_
    refine lv_aload_n hx hb d_R_align_54 rfl (lv_at hl 2 rfl) ?_
    refine va_get (D := D) (ci := 1) (v := .long ry) (C := R_Reducer) (T := F_Reducer) (N := 7) hx hb htg i_Reducer hown hK hP 0 rfl rfl 4 (by decide) (htg _ tm_60) (fun _ h9 => h9) rfl d_R_align_55 ?_
    refine va_mabs_long hx hb (by rw [hml]; exact hl.1.symm) hown (htg _ tm_188) (htg _ tm_189) (htg _ tm_36) (htg _ tm_190) (Nat.le_of_ble_eq_true rfl) (Nat.le_of_ble_eq_true rfl) (Nat.le_of_ble_eq_true rfl) (Nat.le_of_ble_eq_true rfl) d_R_align_58 ?_
    refine lv_lmul hx hb d_R_align_61 ?_
    refine va_put (D := D) (ci := 1) (v := .long (((1 : Int32).toInt64) * (if 0 < ry then ry else -ry))) (ty := .long) (C := R_Reducer) (T := F_Reducer) (N := 7) hx hb htg i_Reducer t_Reducer t_Reducer_ok n_Reducer hown hK hP hD hS 0 rfl rfl 4 (by decide) (htg _ tm_60) (fun _ h9 => h9) rfl (by decide +kernel) rfl rfl (Nat.le_of_ble_eq_true rfl) d_R_align_62 (fun H locs hP hD hS => ?_)
    have hP : va_P D classes ([(h0, .inr (1, [.long ra, .long rb, .long rc, .long (((1 : Int32).toInt64) * (if 0 < rx then rx else -rx)), .long (((1 : Int32).toInt64) * (if 0 < ry then ry else -ry)), .long rz, .int rs]))] ++ wt) H := hP
    have hD : va_D A ([(h0, .inr (1, [.long ra, .long rb, .long rc, .long (((1 : Int32).toInt64) * (if 0 < rx then rx else -rx)), .long (((1 : Int32).toInt64) * (if 0 < ry then ry else -ry)), .long rz, .int rs]))] ++ wt) := hD
    refine lv_aload_n hx hb d_R_align_65 rfl (lv_at hl 2 rfl) ?_
    refine lv_iload_n hx hb d_R_align_66 rfl (lv_at hl 0 rfl) ?_
    refine lv_i2l hx hb d_R_align_67 rfl ?_
    refine lv_aload_n hx hb d_R_align_68 rfl (lv_at hl 2 rfl) ?_
    refine va_get (D := D) (ci := 1) (v := .long rz) (C := R_Reducer) (T := F_Reducer) (N := 7) hx hb htg i_Reducer hown hK hP 0 rfl rfl 5 (by decide) (htg _ tm_61) (fun _ h9 => h9) rfl d_R_align_69 ?_
    refine va_mabs_long hx hb (by rw [hml]; exact hl.1.symm) hown (htg _ tm_188) (htg _ tm_189) (htg _ tm_36) (htg _ tm_190) (Nat.le_of_ble_eq_true rfl) (Nat.le_of_ble_eq_true rfl) (Nat.le_of_ble_eq_true rfl) (Nat.le_of_ble_eq_true rfl) d_R_align_72 ?_
    refine lv_lmul hx hb d_R_align_75 ?_
    refine va_put (D := D) (ci := 1) (v := .long (((1 : Int32).toInt64) * (if 0 < rz then rz else -rz))) (ty := .long) (C := R_Reducer) (T := F_Reducer) (N := 7) hx hb htg i_Reducer t_Reducer t_Reducer_ok n_Reducer hown hK hP hD hS 0 rfl rfl 5 (by decide) (htg _ tm_61) (fun _ h9 => h9) rfl (by decide +kernel) rfl rfl (Nat.le_of_ble_eq_true rfl) d_R_align_76 (fun H locs hP hD hS => ?_)
    have hP : va_P D classes ([(h0, .inr (1, [.long ra, .long rb, .long rc, .long (((1 : Int32).toInt64) * (if 0 < rx then rx else -rx)), .long (((1 : Int32).toInt64) * (if 0 < ry then ry else -ry)), .long (((1 : Int32).toInt64) * (if 0 < rz then rz else -rz)), .int rs]))] ++ wt) H := hP
    have hD : va_D A ([(h0, .inr (1, [.long ra, .long rb, .long rc, .long (((1 : Int32).toInt64) * (if 0 < rx then rx else -rx)), .long (((1 : Int32).toInt64) * (if 0 < ry then ry else -ry)), .long (((1 : Int32).toInt64) * (if 0 < rz then rz else -rz)), .int rs]))] ++ wt) := hD
    exact W.vret hx hb hr (fun t ht hW => ⟨⟨(ra, rb, rc, ((1 : Int32).toInt64) * (if 0 < rx then rx else -rx), ((1 : Int32).toInt64) * (if 0 < ry then ry else -ry), ((1 : Int32).toInt64) * (if 0 < rz then rz else -rz), rs), rfl, h, by rw [ht]; exact hP, hD⟩, hS.F ht⟩) hS.2.2 d_R_align_79
end
section
theorem d_R_shX_0 : decode b_R_shX 0 = .ok (.aload_n 0, 1) := by decide +kernel
theorem d_R_shX_1 : decode b_R_shX 1 = .ok (.getfield 49, 3) := by decide +kernel
theorem d_R_shX_4 : decode b_R_shX 4 = .ok (.invokestatic 84, 3) := by decide +kernel
theorem d_R_shX_7 : decode b_R_shX 7 = .ok (.aload_n 0, 1) := by decide +kernel
theorem d_R_shX_8 : decode b_R_shX 8 = .ok (.getfield 45, 3) := by decide +kernel
theorem d_R_shX_11 : decode b_R_shX 11 = .ok (.lcmp, 1) := by decide +kernel
theorem d_R_shX_12 : decode b_R_shX 12 = .ok (.ifCond .gt 53, 3) := by decide +kernel
theorem d_R_shX_15 : decode b_R_shX 15 = .ok (.aload_n 0, 1) := by decide +kernel
theorem d_R_shX_16 : decode b_R_shX 16 = .ok (.getfield 49, 3) := by decide +kernel
theorem d_R_shX_19 : decode b_R_shX 19 = .ok (.aload_n 0, 1) := by decide +kernel
theorem d_R_shX_20 : decode b_R_shX 20 = .ok (.getfield 45, 3) := by decide +kernel
theorem d_R_shX_23 : decode b_R_shX 23 = .ok (.lcmp, 1) := by decide +kernel
theorem d_R_shX_24 : decode b_R_shX 24 = .ok (.ifCond .ne 19, 3) := by decide +kernel
theorem d_R_shX_27 : decode b_R_shX 27 = .ok (.ldc2_w 47, 3) := by decide +kernel
theorem d_R_shX_30 : decode b_R_shX 30 = .ok (.aload_n 0, 1) := by decide +kernel
theorem d_R_shX_31 : decode b_R_shX 31 = .ok (.getfield 52, 3) := by decide +kernel
theorem d_R_shX_34 : decode b_R_shX 34 = .ok (.lmul, 1) := by decide +kernel
theorem d_R_shX_35 : decode b_R_shX 35 = .ok (.aload_n 0, 1) := by decide +kernel
theorem d_R_shX_36 : decode b_R_shX 36 = .ok (.getfield 55, 3) := by decide +kernel
theorem d_R_shX_39 : decode b_R_shX 39 = .ok (.lcmp, 1) := by decide +kernel
theorem d_R_shX_40 : decode b_R_shX 40 = .ok (.ifCond .lt 25, 3) := by decide +kernel
theorem d_R_shX_43 : decode b_R_shX 43 = .ok (.aload_n 0, 1) := by decide +kernel
theorem d_R_shX_44 : decode b_R_shX 44 = .ok (.getfield 49, 3) := by decide +kernel
theorem d_R_shX_47 : decode b_R_shX 47 = .ok (.aload_n 0, 1) := by decide +kernel
theorem d_R_shX_48 : decode b_R_shX 48 = .ok (.getfield 45, 3) := by decide +kernel
theorem d_R_shX_51 : decode b_R_shX 51 = .ok (.lneg, 1) := by decide +kernel
theorem d_R_shX_52 : decode b_R_shX 52 = .ok (.lcmp, 1) := by decide +kernel
theorem d_R_shX_53 : decode b_R_shX 53 = .ok (.ifCond .ne 84, 3) := by decide +kernel
theorem d_R_shX_56 : decode b_R_shX 56 = .ok (.aload_n 0, 1) := by decide +kernel
theorem d_R_shX_57 : decode b_R_shX 57 = .ok (.getfield 55, 3) := by decide +kernel
theorem d_R_shX_60 : decode b_R_shX 60 = .ok (.lconst 0, 1) := by decide +kernel
theorem d_R_shX_61 : decode b_R_shX 61 = .ok (.lcmp, 1) := by decide +kernel
theorem d_R_shX_62 : decode b_R_shX 62 = .ok (.ifCond .ge 75, 3) := by decide +kernel
theorem d_R_shX_65 : decode b_R_shX 65 = .ok (.aload_n 0, 1) := by decide +kernel
theorem d_R_shX_66 : decode b_R_shX 66 = .ok (.getfield 49, 3) := by decide +kernel
theorem d_R_shX_69 : decode b_R_shX 69 = .ok (.lconst 0, 1) := by decide +kernel
theorem d_R_shX_70 : decode b_R_shX 70 = .ok (.lcmp, 1) := by decide +kernel
theorem d_R_shX_71 : decode b_R_shX 71 = .ok (.ifCond .le 7, 3) := by decide +kernel
theorem d_R_shX_74 : decode b_R_shX 74 = .ok (.iconst 1, 1) := by decide +kernel
theorem d_R_shX_75 : decode b_R_shX 75 = .ok (.goto 4, 3) := by decide +kernel
theorem d_R_shX_78 : decode b_R_shX 78 = .ok (.iconst (-1), 1) := by decide +kernel
theorem d_R_shX_79 : decode b_R_shX 79 = .ok (.istore_n 1, 1) := by decide +kernel
theorem d_R_shX_80 : decode b_R_shX 80 = .ok (.aload_n 0, 1) := by decide +kernel
theorem d_R_shX_81 : decode b_R_shX 81 = .ok (.aload_n 0, 1) := by decide +kernel
theorem d_R_shX_82 : decode b_R_shX 82 = .ok (.getfield 45, 3) := by decide +kernel
theorem d_R_shX_85 : decode b_R_shX 85 = .ok (.aload_n 0, 1) := by decide +kernel
theorem d_R_shX_86 : decode b_R_shX 86 = .ok (.getfield 46, 3) := by decide +kernel
theorem d_R_shX_89 : decode b_R_shX 89 = .ok (.ladd, 1) := by decide +kernel
theorem d_R_shX_90 : decode b_R_shX 90 = .ok (.iload_n 1, 1) := by decide +kernel
theorem d_R_shX_91 : decode b_R_shX 91 = .ok (.i2l, 1) := by decide +kernel
theorem d_R_shX_92 : decode b_R_shX 92 = .ok (.aload_n 0, 1) := by decide +kernel
theorem d_R_shX_93 : decode b_R_shX 93 = .ok (.getfield 49, 3) := by decide +kernel
theorem d_R_shX_96 : decode b_R_shX 96 = .ok (.lmul, 1) := by decide +kernel
theorem d_R_shX_97 : decode b_R_shX 97 = .ok (.lsub, 1) := by decide +kernel
theorem d_R_shX_98 : decode b_R_shX 98 = .ok (.putfield 46, 3) := by decide +kernel
theorem d_R_shX_101 : decode b_R_shX 101 = .ok (.aload_n 0, 1) := by decide +kernel
theorem d_R_shX_102 : decode b_R_shX 102 = .ok (.aload_n 0, 1) := by decide +kernel
theorem d_R_shX_103 : decode b_R_shX 103 = .ok (.getfield 52, 3) := by decide +kernel
theorem d_R_shX_106 : decode b_R_shX 106 = .ok (.iload_n 1, 1) := by decide +kernel
theorem d_R_shX_107 : decode b_R_shX 107 = .ok (.i2l, 1) := by decide +kernel
theorem d_R_shX_108 : decode b_R_shX 108 = .ok (.aload_n 0, 1) := by decide +kernel
theorem d_R_shX_109 : decode b_R_shX 109 = .ok (.getfield 55, 3) := by decide +kernel
theorem d_R_shX_112 : decode b_R_shX 112 = .ok (.lmul, 1) := by decide +kernel
theorem d_R_shX_113 : decode b_R_shX 113 = .ok (.lsub, 1) := by decide +kernel
theorem d_R_shX_114 : decode b_R_shX 114 = .ok (.putfield 52, 3) := by decide +kernel
theorem d_R_shX_117 : decode b_R_shX 117 = .ok (.aload_n 0, 1) := by decide +kernel
theorem d_R_shX_118 : decode b_R_shX 118 = .ok (.aload_n 0, 1) := by decide +kernel
theorem d_R_shX_119 : decode b_R_shX 119 = .ok (.getfield 49, 3) := by decide +kernel
theorem d_R_shX_122 : decode b_R_shX 122 = .ok (.iconst 2, 1) := by decide +kernel
theorem d_R_shX_123 : decode b_R_shX 123 = .ok (.iload_n 1, 1) := by decide +kernel
theorem d_R_shX_124 : decode b_R_shX 124 = .ok (.imul, 1) := by decide +kernel
theorem d_R_shX_125 : decode b_R_shX 125 = .ok (.i2l, 1) := by decide +kernel
theorem d_R_shX_126 : decode b_R_shX 126 = .ok (.aload_n 0, 1) := by decide +kernel
theorem d_R_shX_127 : decode b_R_shX 127 = .ok (.getfield 45, 3) := by decide +kernel
theorem d_R_shX_130 : decode b_R_shX 130 = .ok (.lmul, 1) := by decide +kernel
theorem d_R_shX_131 : decode b_R_shX 131 = .ok (.lsub, 1) := by decide +kernel
theorem d_R_shX_132 : decode b_R_shX 132 = .ok (.putfield 49, 3) := by decide +kernel
theorem d_R_shX_135 : decode b_R_shX 135 = .ok (.iconst 1, 1) := by decide +kernel
theorem d_R_shX_136 : decode b_R_shX 136 = .ok (.ireturn, 1) := by decide +kernel
theorem d_R_shX_137 : decode b_R_shX 137 = .ok (.iconst 0, 1) := by decide +kernel
theorem d_R_shX_138 : decode b_R_shX 138 = .ok (.ireturn, 1) := by decide +kernel
theorem d_R_shY_0 : decode b_R_shY 0 = .ok (.aload_n 0, 1) := by decide +kernel
theorem d_R_shY_1 : decode b_R_shY 1 = .ok (.getfield 52, 3) := by decide +kernel
theorem d_R_shY_4 : decode b_R_shY 4 = .ok (.invokestatic 84, 3) := by decide +kernel
theorem d_R_shY_7 : decode b_R_shY 7 = .ok (.aload_n 0, 1) := by decide +kernel
theorem d_R_shY_8 : decode b_R_shY 8 = .ok (.getfield 44, 3) := by decide +kernel
theorem d_R_shY_11 : decode b_R_shY 11 = .ok (.lcmp, 1) := by decide +kernel
theorem d_R_shY_12 : decode b_R_shY 12 = .ok (.ifCond .gt 53, 3) := by decide +kernel
theorem d_R_shY_15 : decode b_R_shY 15 = .ok (.aload_n 0, 1) := by decide +kernel
theorem d_R_shY_16 : decode b_R_shY 16 = .ok (.getfield 52, 3) := by decide +kernel
theorem d_R_shY_19 : decode b_R_shY 19 = .ok (.aload_n 0, 1) := by decide +kernel
theorem d_R_shY_20 : decode b_R_shY 20 = .ok (.getfield 44, 3) := by decide +kernel
theorem d_R_shY_23 : decode b_R_shY 23 = .ok (.lcmp, 1) := by decide +kernel
theorem d_R_shY_24 : decode b_R_shY 24 = .ok (.ifCond .ne 19, 3) := by decide +kernel
theorem d_R_shY_27 : decode b_R_shY 27 = .ok (.ldc2_w 47, 3) := by decide +kernel
theorem d_R_shY_30 : decode b_R_shY 30 = .ok (.aload_n 0, 1) := by decide +kernel
theorem d_R_shY_31 : decode b_R_shY 31 = .ok (.getfield 49, 3) := by decide +kernel
theorem d_R_shY_34 : decode b_R_shY 34 = .ok (.lmul, 1) := by decide +kernel
theorem d_R_shY_35 : decode b_R_shY 35 = .ok (.aload_n 0, 1) := by decide +kernel
theorem d_R_shY_36 : decode b_R_shY 36 = .ok (.getfield 55, 3) := by decide +kernel
theorem d_R_shY_39 : decode b_R_shY 39 = .ok (.lcmp, 1) := by decide +kernel
theorem d_R_shY_40 : decode b_R_shY 40 = .ok (.ifCond .lt 25, 3) := by decide +kernel
theorem d_R_shY_43 : decode b_R_shY 43 = .ok (.aload_n 0, 1) := by decide +kernel
theorem d_R_shY_44 : decode b_R_shY 44 = .ok (.getfield 52, 3) := by decide +kernel
theorem d_R_shY_47 : decode b_R_shY 47 = .ok (.aload_n 0, 1) := by decide +kernel
theorem d_R_shY_48 : decode b_R_shY 48 = .ok (.getfield 44, 3) := by decide +kernel
theorem d_R_shY_51 : decode b_R_shY 51 = .ok (.lneg, 1) := by decide +kernel
theorem d_R_shY_52 : decode b_R_shY 52 = .ok (.lcmp, 1) := by decide +kernel
theorem d_R_shY_53 : decode b_R_shY 53 = .ok (.ifCond .ne 84, 3) := by decide +kernel
theorem d_R_shY_56 : decode b_R_shY 56 = .ok (.aload_n 0, 1) := by decide +kernel
theorem d_R_shY_57 : decode b_R_shY 57 = .ok (.getfield 55, 3) := by decide +kernel
theorem d_R_shY_60 : decode b_R_shY 60 = .ok (.lconst 0, 1) := by decide +kernel
theorem d_R_shY_61 : decode b_R_shY 61 = .ok (.lcmp, 1) := by decide +kernel
theorem d_R_shY_62 : decode b_R_shY 62 = .ok (.ifCond .ge 75, 3) := by decide +kernel
theorem d_R_shY_65 : decode b_R_shY 65 = .ok (.aload_n 0, 1) := by decide +kernel
theorem d_R_shY_66 : decode b_R_shY 66 = .ok (.getfield 52, 3) := by decide +kernel
theorem d_R_shY_69 : decode b_R_shY 69 = .ok (.lconst 0, 1) := by decide +kernel
theorem d_R_shY_70 : decode b_R_shY 70 = .ok (.lcmp, 1) := by decide +kernel
theorem d_R_shY_71 : decode b_R_shY 71 = .ok (.ifCond .le 7, 3) := by decide +kernel
theorem d_R_shY_74 : decode b_R_shY 74 = .ok (.iconst 1, 1) := by decide +kernel
theorem d_R_shY_75 : decode b_R_shY 75 = .ok (.goto 4, 3) := by decide +kernel
theorem d_R_shY_78 : decode b_R_shY 78 = .ok (.iconst (-1), 1) := by decide +kernel
theorem d_R_shY_79 : decode b_R_shY 79 = .ok (.istore_n 1, 1) := by decide +kernel
theorem d_R_shY_80 : decode b_R_shY 80 = .ok (.aload_n 0, 1) := by decide +kernel
theorem d_R_shY_81 : decode b_R_shY 81 = .ok (.aload_n 0, 1) := by decide +kernel
theorem d_R_shY_82 : decode b_R_shY 82 = .ok (.getfield 44, 3) := by decide +kernel
theorem d_R_shY_85 : decode b_R_shY 85 = .ok (.aload_n 0, 1) := by decide +kernel
theorem d_R_shY_86 : decode b_R_shY 86 = .ok (.getfield 46, 3) := by decide +kernel
theorem d_R_shY_89 : decode b_R_shY 89 = .ok (.ladd, 1) := by decide +kernel
theorem d_R_shY_90 : decode b_R_shY 90 = .ok (.iload_n 1, 1) := by decide +kernel
theorem d_R_shY_91 : decode b_R_shY 91 = .ok (.i2l, 1) := by decide +kernel
theorem d_R_shY_92 : decode b_R_shY 92 = .ok (.aload_n 0, 1) := by decide +kernel
theorem d_R_shY_93 : decode b_R_shY 93 = .ok (.getfield 52, 3) := by decide +kernel
theorem d_R_shY_96 : decode b_R_shY 96 = .ok (.lmul, 1) := by decide +kernel
theorem d_R_shY_97 : decode b_R_shY 97 = .ok (.lsub, 1) := by decide +kernel
theorem d_R_shY_98 : decode b_R_shY 98 = .ok (.putfield 46, 3) := by decide +kernel
theorem d_R_shY_101 : decode b_R_shY 101 = .ok (.aload_n 0, 1) := by decide +kernel
theorem d_R_shY_102 : decode b_R_shY 102 = .ok (.aload_n 0, 1) := by decide +kernel
theorem d_R_shY_103 : decode b_R_shY 103 = .ok (.getfield 49, 3) := by decide +kernel
theorem d_R_shY_106 : decode b_R_shY 106 = .ok (.iload_n 1, 1) := by decide +kernel
theorem d_R_shY_107 : decode b_R_shY 107 = .ok (.i2l, 1) := by decide +kernel
theorem d_R_shY_108 : decode b_R_shY 108 = .ok (.aload_n 0, 1) := by decide +kernel
theorem d_R_shY_109 : decode b_R_shY 109 = .ok (.getfield 55, 3) := by decide +kernel
theorem d_R_shY_112 : decode b_R_shY 112 = .ok (.lmul, 1) := by decide +kernel
theorem d_R_shY_113 : decode b_R_shY 113 = .ok (.lsub, 1) := by decide +kernel
theorem d_R_shY_114 : decode b_R_shY 114 = .ok (.putfield 49, 3) := by decide +kernel
theorem d_R_shY_117 : decode b_R_shY 117 = .ok (.aload_n 0, 1) := by decide +kernel
theorem d_R_shY_118 : decode b_R_shY 118 = .ok (.aload_n 0, 1) := by decide +kernel
theorem d_R_shY_119 : decode b_R_shY 119 = .ok (.getfield 52, 3) := by decide +kernel
theorem d_R_shY_122 : decode b_R_shY 122 = .ok (.iconst 2, 1) := by decide +kernel
theorem d_R_shY_123 : decode b_R_shY 123 = .ok (.iload_n 1, 1) := by decide +kernel
theorem d_R_shY_124 : decode b_R_shY 124 = .ok (.imul, 1) := by decide +kernel
theorem d_R_shY_125 : decode b_R_shY 125 = .ok (.i2l, 1) := by decide +kernel
theorem d_R_shY_126 : decode b_R_shY 126 = .ok (.aload_n 0, 1) := by decide +kernel
theorem d_R_shY_127 : decode b_R_shY 127 = .ok (.getfield 44, 3) := by decide +kernel
theorem d_R_shY_130 : decode b_R_shY 130 = .ok (.lmul, 1) := by decide +kernel
theorem d_R_shY_131 : decode b_R_shY 131 = .ok (.lsub, 1) := by decide +kernel
theorem d_R_shY_132 : decode b_R_shY 132 = .ok (.putfield 52, 3) := by decide +kernel
theorem d_R_shY_135 : decode b_R_shY 135 = .ok (.iconst 1, 1) := by decide +kernel
theorem d_R_shY_136 : decode b_R_shY 136 = .ok (.ireturn, 1) := by decide +kernel
theorem d_R_shY_137 : decode b_R_shY 137 = .ok (.iconst 0, 1) := by decide +kernel
theorem d_R_shY_138 : decode b_R_shY 138 = .ok (.ireturn, 1) := by decide +kernel
theorem d_R_shZ_0 : decode b_R_shZ 0 = .ok (.aload_n 0, 1) := by decide +kernel
theorem d_R_shZ_1 : decode b_R_shZ 1 = .ok (.getfield 55, 3) := by decide +kernel
theorem d_R_shZ_4 : decode b_R_shZ 4 = .ok (.invokestatic 84, 3) := by decide +kernel
theorem d_R_shZ_7 : decode b_R_shZ 7 = .ok (.aload_n 0, 1) := by decide +kernel
theorem d_R_shZ_8 : decode b_R_shZ 8 = .ok (.getfield 44, 3) := by decide +kernel
theorem d_R_shZ_11 : decode b_R_shZ 11 = .ok (.lcmp, 1) := by decide +kernel
theorem d_R_shZ_12 : decode b_R_shZ 12 = .ok (.ifCond .gt 53, 3) := by decide +kernel
theorem d_R_shZ_15 : decode b_R_shZ 15 = .ok (.aload_n 0, 1) := by decide +kernel
theorem d_R_shZ_16 : decode b_R_shZ 16 = .ok (.getfield 55, 3) := by decide +kernel
theorem d_R_shZ_19 : decode b_R_shZ 19 = .ok (.aload_n 0, 1) := by decide +kernel
theorem d_R_shZ_20 : decode b_R_shZ 20 = .ok (.getfield 44, 3) := by decide +kernel
theorem d_R_shZ_23 : decode b_R_shZ 23 = .ok (.lcmp, 1) := by decide +kernel
theorem d_R_shZ_24 : decode b_R_shZ 24 = .ok (.ifCond .ne 19, 3) := by decide +kernel
theorem d_R_shZ_27 : decode b_R_shZ 27 = .ok (.ldc2_w 47, 3) := by decide +kernel
theorem d_R_shZ_30 : decode b_R_shZ 30 = .ok (.aload_n 0, 1) := by decide +kernel
theorem d_R_shZ_31 : decode b_R_shZ 31 = .ok (.getfield 49, 3) := by decide +kernel
theorem d_R_shZ_34 : decode b_R_shZ 34 = .ok (.lmul, 1) := by decide +kernel
theorem d_R_shZ_35 : decode b_R_shZ 35 = .ok (.aload_n 0, 1) := by decide +kernel
theorem d_R_shZ_36 : decode b_R_shZ 36 = .ok (.getfield 52, 3) := by decide +kernel
theorem d_R_shZ_39 : decode b_R_shZ 39 = .ok (.lcmp, 1) := by decide +kernel
theorem d_R_shZ_40 : decode b_R_shZ 40 = .ok (.ifCond .lt 25, 3) := by decide +kernel
theorem d_R_shZ_43 : decode b_R_shZ 43 = .ok (.aload_n 0, 1) := by decide +kernel
theorem d_R_shZ_44 : decode b_R_shZ 44 = .ok (.getfield 55, 3) := by decide +kernel
theorem d_R_shZ_47 : decode b_R_shZ 47 = .ok (.aload_n 0, 1) := by decide +kernel
theorem d_R_shZ_48 : decode b_R_shZ 48 = .ok (.getfield 44, 3) := by decide +kernel
theorem d_R_shZ_51 : decode b_R_shZ 51 = .ok (.lneg, 1) := by decide +kernel
theorem d_R_shZ_52 : decode b_R_shZ 52 = .ok (.lcmp, 1) := by decide +kernel
theorem d_R_shZ_53 : decode b_R_shZ 53 = .ok (.ifCond .ne 84, 3) := by decide +kernel
theorem d_R_shZ_56 : decode b_R_shZ 56 = .ok (.aload_n 0, 1) := by decide +kernel
theorem d_R_shZ_57 : decode b_R_shZ 57 = .ok (.getfield 52, 3) := by decide +kernel
theorem d_R_shZ_60 : decode b_R_shZ 60 = .ok (.lconst 0, 1) := by decide +kernel
theorem d_R_shZ_61 : decode b_R_shZ 61 = .ok (.lcmp, 1) := by decide +kernel
theorem d_R_shZ_62 : decode b_R_shZ 62 = .ok (.ifCond .ge 75, 3) := by decide +kernel
theorem d_R_shZ_65 : decode b_R_shZ 65 = .ok (.aload_n 0, 1) := by decide +kernel
theorem d_R_shZ_66 : decode b_R_shZ 66 = .ok (.getfield 55, 3) := by decide +kernel
theorem d_R_shZ_69 : decode b_R_shZ 69 = .ok (.lconst 0, 1) := by decide +kernel
theorem d_R_shZ_70 : decode b_R_shZ 70 = .ok (.lcmp, 1) := by decide +kernel
theorem d_R_shZ_71 : decode b_R_shZ 71 = .ok (.ifCond .le 7, 3) := by decide +kernel
theorem d_R_shZ_74 : decode b_R_shZ 74 = .ok (.iconst 1, 1) := by decide +kernel
theorem d_R_shZ_75 : decode b_R_shZ 75 = .ok (.goto 4, 3) := by decide +kernel
theorem d_R_shZ_78 : decode b_R_shZ 78 = .ok (.iconst (-1), 1) := by decide +kernel
theorem d_R_shZ_79 : decode b_R_shZ 79 = .ok (.istore_n 1, 1) := by decide +kernel
theorem d_R_shZ_80 : decode b_R_shZ 80 = .ok (.aload_n 0, 1) := by decide +kernel
theorem d_R_shZ_81 : decode b_R_shZ 81 = .ok (.aload_n 0, 1) := by decide +kernel
theorem d_R_shZ_82 : decode b_R_shZ 82 = .ok (.getfield 44, 3) := by decide +kernel
theorem d_R_shZ_85 : decode b_R_shZ 85 = .ok (.aload_n 0, 1) := by decide +kernel
theorem d_R_shZ_86 : decode b_R_shZ 86 = .ok (.getfield 45, 3) := by decide +kernel
theorem d_R_shZ_89 : decode b_R_shZ 89 = .ok (.ladd, 1) := by decide +kernel
theorem d_R_shZ_90 : decode b_R_shZ 90 = .ok (.iload_n 1, 1) := by decide +kernel
theorem d_R_shZ_91 : decode b_R_shZ 91 = .ok (.i2l, 1) := by decide +kernel
theorem d_R_shZ_92 : decode b_R_shZ 92 = .ok (.aload_n 0, 1) := by decide +kernel
theorem d_R_shZ_93 : decode b_R_shZ 93 = .ok (.getfield 55, 3) := by decide +kernel
theorem d_R_shZ_96 : decode b_R_shZ 96 = .ok (.lmul, 1) := by decide +kernel
theorem d_R_shZ_97 : decode b_R_shZ 97 = .ok (.lsub, 1) := by decide +kernel
theorem d_R_shZ_98 : decode b_R_shZ 98 = .ok (.putfield 45, 3) := by decide +kernel
theorem d_R_shZ_101 : decode b_R_shZ 101 = .ok (.aload_n 0, 1) := by decide +kernel
theorem d_R_shZ_102 : decode b_R_shZ 102 = .ok (.aload_n 0, 1) := by decide +kernel
theorem d_R_shZ_103 : decode b_R_shZ 103 = .ok (.getfield 49, 3) := by decide +kernel
theorem d_R_shZ_106 : decode b_R_shZ 106 = .ok (.iload_n 1, 1) := by decide +kernel
theorem d_R_shZ_107 : decode b_R_shZ 107 = .ok (.i2l, 1) := by decide +kernel
theorem d_R_shZ_108 : decode b_R_shZ 108 = .ok (.aload_n 0, 1) := by decide +kernel
theorem d_R_shZ_109 : decode b_R_shZ 109 = .ok (.getfield 52, 3) := by decide +kernel
theorem d_R_shZ_112 : decode b_R_shZ 112 = .ok (.lmul, 1) := by decide +kernel
theorem d_R_shZ_113 : decode b_R_shZ 113 = .ok (.lsub, 1) := by decide +kernel
theorem d_R_shZ_114 : decode b_R_shZ 114 = .ok (.putfield 49, 3) := by decide +kernel
theorem d_R_shZ_117 : decode b_R_shZ 117 = .ok (.aload_n 0, 1) := by decide +kernel
theorem d_R_shZ_118 : decode b_R_shZ 118 = .ok (.aload_n 0, 1) := by decide +kernel
theorem d_R_shZ_119 : decode b_R_shZ 119 = .ok (.getfield 55, 3) := by decide +kernel
theorem d_R_shZ_122 : decode b_R_shZ 122 = .ok (.iconst 2, 1) := by decide +kernel
theorem d_R_shZ_123 : decode b_R_shZ 123 = .ok (.iload_n 1, 1) := by decide +kernel
theorem d_R_shZ_124 : decode b_R_shZ 124 = .ok (.imul, 1) := by decide +kernel
theorem d_R_shZ_125 : decode b_R_shZ 125 = .ok (.i2l, 1) := by decide +kernel
theorem d_R_shZ_126 : decode b_R_shZ 126 = .ok (.aload_n 0, 1) := by decide +kernel
theorem d_R_shZ_127 : decode b_R_shZ 127 = .ok (.getfield 44, 3) := by decide +kernel
theorem d_R_shZ_130 : decode b_R_shZ 130 = .ok (.lmul, 1) := by decide +kernel
theorem d_R_shZ_131 : decode b_R_shZ 131 = .ok (.lsub, 1) := by decide +kernel
theorem d_R_shZ_132 : decode b_R_shZ 132 = .ok (.putfield 55, 3) := by decide +kernel
theorem d_R_shZ_135 : decode b_R_shZ 135 = .ok (.iconst 1, 1) := by decide +kernel
theorem d_R_shZ_136 : decode b_R_shZ 136 = .ok (.ireturn, 1) := by decide +kernel
theorem d_R_shZ_137 : decode b_R_shZ 137 = .ok (.iconst 0, 1) := by decide +kernel
theorem d_R_shZ_138 : decode b_R_shZ 138 = .ok (.ireturn, 1) := by decide +kernel
theorem d_R_shS_0 : decode b_R_shS 0 = .ok (.aload_n 0, 1) := by decide +kernel
theorem d_R_shS_1 : decode b_R_shS 1 = .ok (.getfield 49, 3) := by decide +kernel
theorem d_R_shS_4 : decode b_R_shS 4 = .ok (.aload_n 0, 1) := by decide +kernel
theorem d_R_shS_5 : decode b_R_shS 5 = .ok (.getfield 52, 3) := by decide +kernel
theorem d_R_shS_8 : decode b_R_shS 8 = .ok (.ladd, 1) := by decide +kernel
theorem d_R_shS_9 : decode b_R_shS 9 = .ok (.aload_n 0, 1) := by decide +kernel
theorem d_R_shS_10 : decode b_R_shS 10 = .ok (.getfield 55, 3) := by decide +kernel
theorem d_R_shS_13 : decode b_R_shS 13 = .ok (.ladd, 1) := by decide +kernel
theorem d_R_shS_14 : decode b_R_shS 14 = .ok (.aload_n 0, 1) := by decide +kernel
theorem d_R_shS_15 : decode b_R_shS 15 = .ok (.getfield 44, 3) := by decide +kernel
theorem d_R_shS_18 : decode b_R_shS 18 = .ok (.ladd, 1) := by decide +kernel
theorem d_R_shS_19 : decode b_R_shS 19 = .ok (.aload_n 0, 1) := by decide +kernel
theorem d_R_shS_20 : decode b_R_shS 20 = .ok (.getfield 45, 3) := by decide +kernel
theorem d_R_shS_23 : decode b_R_shS 23 = .ok (.ladd, 1) := by decide +kernel
theorem d_R_shS_24 : decode b_R_shS 24 = .ok (.lstore_n 1, 1) := by decide +kernel
theorem d_R_shS_25 : decode b_R_shS 25 = .ok (.lload_n 1, 1) := by decide +kernel
theorem d_R_shS_26 : decode b_R_shS 26 = .ok (.lconst 0, 1) := by decide +kernel
theorem d_R_shS_27 : decode b_R_shS 27 = .ok (.lcmp, 1) := by decide +kernel
theorem d_R_shS_28 : decode b_R_shS 28 = .ok (.ifCond .lt 32, 3) := by decide +kernel
theorem d_R_shS_31 : decode b_R_shS 31 = .ok (.lload_n 1, 1) := by decide +kernel
theorem d_R_shS_32 : decode b_R_shS 32 = .ok (.lconst 0, 1) := by decide +kernel
theorem d_R_shS_33 : decode b_R_shS 33 = .ok (.lcmp, 1) := by decide +kernel
theorem d_R_shS_34 : decode b_R_shS 34 = .ok (.ifCond .ne 82, 3) := by decide +kernel
theorem d_R_shS_37 : decode b_R_shS 37 = .ok (.ldc2_w 47, 3) := by decide +kernel
theorem d_R_shS_40 : decode b_R_shS 40 = .ok (.aload_n 0, 1) := by decide +kernel
theorem d_R_shS_41 : decode b_R_shS 41 = .ok (.getfield 44, 3) := by decide +kernel
theorem d_R_shS_44 : decode b_R_shS 44 = .ok (.aload_n 0, 1) := by decide +kernel
theorem d_R_shS_45 : decode b_R_shS 45 = .ok (.getfield 52, 3) := by decide +kernel
theorem d_R_shS_48 : decode b_R_shS 48 = .ok (.ladd, 1) := by decide +kernel
theorem d_R_shS_49 : decode b_R_shS 49 = .ok (.lmul, 1) := by decide +kernel
theorem d_R_shS_50 : decode b_R_shS 50 = .ok (.aload_n 0, 1) := by decide +kernel
theorem d_R_shS_51 : decode b_R_shS 51 = .ok (.getfield 55, 3) := by decide +kernel
theorem d_R_shS_54 : decode b_R_shS 54 = .ok (.ladd, 1) := by decide +kernel
theorem d_R_shS_55 : decode b_R_shS 55 = .ok (.lconst 0, 1) := by decide +kernel
theorem d_R_shS_56 : decode b_R_shS 56 = .ok (.lcmp, 1) := by decide +kernel
theorem d_R_shS_57 : decode b_R_shS 57 = .ok (.ifCond .le 59, 3) := by decide +kernel
theorem d_R_shS_60 : decode b_R_shS 60 = .ok (.aload_n 0, 1) := by decide +kernel
theorem d_R_shS_61 : decode b_R_shS 61 = .ok (.aload_n 0, 1) := by decide +kernel
theorem d_R_shS_62 : decode b_R_shS 62 = .ok (.getfield 46, 3) := by decide +kernel
theorem d_R_shS_65 : decode b_R_shS 65 = .ok (.lload_n 1, 1) := by decide +kernel
theorem d_R_shS_66 : decode b_R_shS 66 = .ok (.ladd, 1) := by decide +kernel
theorem d_R_shS_67 : decode b_R_shS 67 = .ok (.putfield 46, 3) := by decide +kernel
theorem d_R_shS_70 : decode b_R_shS 70 = .ok (.aload_n 0, 1) := by decide +kernel
theorem d_R_shS_71 : decode b_R_shS 71 = .ok (.ldc2_w 47, 3) := by decide +kernel
theorem d_R_shS_74 : decode b_R_shS 74 = .ok (.aload_n 0, 1) := by decide +kernel
theorem d_R_shS_75 : decode b_R_shS 75 = .ok (.getfield 45, 3) := by decide +kernel
theorem d_R_shS_78 : decode b_R_shS 78 = .ok (.lmul, 1) := by decide +kernel
theorem d_R_shS_79 : decode b_R_shS 79 = .ok (.aload_n 0, 1) := by decide +kernel
theorem d_R_shS_80 : decode b_R_shS 80 = .ok (.getfield 49, 3) := by decide +kernel
theorem d_R_shS_83 : decode b_R_shS 83 = .ok (.ladd, 1) := by decide +kernel
theorem d_R_shS_84 : decode b_R_shS 84 = .ok (.aload_n 0, 1) := by decide +kernel
theorem d_R_shS_85 : decode b_R_shS 85 = .ok (.getfield 55, 3) := by decide +kernel
theorem d_R_shS_88 : decode b_R_shS 88 = .ok (.ladd, 1) := by decide +kernel
theorem d_R_shS_89 : decode b_R_shS 89 = .ok (.putfield 49, 3) := by decide +kernel
theorem d_R_shS_92 : decode b_R_shS 92 = .ok (.aload_n 0, 1) := by decide +kernel
theorem d_R_shS_93 : decode b_R_shS 93 = .ok (.ldc2_w 47, 3) := by decide +kernel
theorem d_R_shS_96 : decode b_R_shS 96 = .ok (.aload_n 0, 1) := by decide +kernel
theorem d_R_shS_97 : decode b_R_shS 97 = .ok (.getfield 44, 3) := by decide +kernel
theorem d_R_shS_100 : decode b_R_shS 100 = .ok (.lmul, 1) := by decide +kernel
theorem d_R_shS_101 : decode b_R_shS 101 = .ok (.aload_n 0, 1) := by decide +kernel
theorem d_R_shS_102 : decode b_R_shS 102 = .ok (.getfield 52, 3) := by decide +kernel
theorem d_R_shS_105 : decode b_R_shS 105 = .ok (.ladd, 1) := by decide +kernel
theorem d_R_shS_106 : decode b_R_shS 106 = .ok (.aload_n 0, 1) := by decide +kernel
theorem d_R_shS_107 : decode b_R_shS 107 = .ok (.getfield 55, 3) := by decide +kernel
theorem d_R_shS_110 : decode b_R_shS 110 = .ok (.ladd, 1) := by decide +kernel
theorem d_R_shS_111 : decode b_R_shS 111 = .ok (.putfield 52, 3) := by decide +kernel
theorem d_R_shS_114 : decode b_R_shS 114 = .ok (.iconst 1, 1) := by decide +kernel
theorem d_R_shS_115 : decode b_R_shS 115 = .ok (.ireturn, 1) := by decide +kernel
theorem d_R_shS_116 : decode b_R_shS 116 = .ok (.iconst 0, 1) := by decide +kernel
theorem d_R_shS_117 : decode b_R_shS 117 = .ok (.ireturn, 1) := by decide +kernel
end
section
-- CellBench$Reducer shearByX ()Z
def f_R_shX (ra : Int64) (rb : Int64) (rc : Int64) (rx : Int64) (ry : Int64) (rz : Int64) (rs : Int32) : Int32 × Int64 × Int64 × Int64 × Int64 × Int64 × Int64 × Int32 :=
    if 0 < (lg_cmp (if 0 < rx then rx else -rx) rb) then (if (lg_cmp rx (0 : Int64)) ≤ 0 then ((1 : Int32), ra, rb, (rb + rc) - (((-1 : Int32).toInt64) * rx), rx - ((((2 : Int32) * (-1 : Int32)).toInt64) * rb), ry - (((-1 : Int32).toInt64) * rz), rz, rs) else ((1 : Int32), ra, rb, (rb + rc) - (((1 : Int32).toInt64) * rx), rx - ((((2 : Int32) * (1 : Int32)).toInt64) * rb), ry - (((1 : Int32).toInt64) * rz), rz, rs)) else (if (lg_cmp rx rb) = 0 then (if (lg_cmp ((2 : Int64) * ry) rz) < 0 then (if (lg_cmp rx (0 : Int64)) ≤ 0 then ((1 : Int32), ra, rb, (rb + rc) - (((-1 : Int32).toInt64) * rx), rx - ((((2 : Int32) * (-1 : Int32)).toInt64) * rb), ry - (((-1 : Int32).toInt64) * rz), rz, rs) else ((1 : Int32), ra, rb, (rb + rc) - (((1 : Int32).toInt64) * rx), rx - ((((2 : Int32) * (1 : Int32)).toInt64) * rb), ry - (((1 : Int32).toInt64) * rz), rz, rs)) else (if (lg_cmp rx (-rb)) = 0 then (if 0 ≤ (lg_cmp rz (0 : Int64)) then ((0 : Int32), ra, rb, rc, rx, ry, rz, rs) else (if (lg_cmp rx (0 : Int64)) ≤ 0 then ((1 : Int32), ra, rb, (rb + rc) - (((-1 : Int32).toInt64) * rx), rx - ((((2 : Int32) * (-1 : Int32)).toInt64) * rb), ry - (((-1 : Int32).toInt64) * rz), rz, rs) else ((1 : Int32), ra, rb, (rb + rc) - (((1 : Int32).toInt64) * rx), rx - ((((2 : Int32) * (1 : Int32)).toInt64) * rb), ry - (((1 : Int32).toInt64) * rz), rz, rs))) else ((0 : Int32), ra, rb, rc, rx, ry, rz, rs))) else (if (lg_cmp rx (-rb)) = 0 then (if 0 ≤ (lg_cmp rz (0 : Int64)) then ((0 : Int32), ra, rb, rc, rx, ry, rz, rs) else (if (lg_cmp rx (0 : Int64)) ≤ 0 then ((1 : Int32), ra, rb, (rb + rc) - (((-1 : Int32).toInt64) * rx), rx - ((((2 : Int32) * (-1 : Int32)).toInt64) * rb), ry - (((-1 : Int32).toInt64) * rz), rz, rs) else ((1 : Int32), ra, rb, (rb + rc) - (((1 : Int32).toInt64) * rx), rx - ((((2 : Int32) * (1 : Int32)).toInt64) * rb), ry - (((1 : Int32).toInt64) * rz), rz, rs))) else ((0 : Int32), ra, rb, rc, rx, ry, rz, rs)))
def w_R_shX : List Cond := .code y_R_shX b_R_shX 2 (some .boolean) :: GW
abbrev rm_R_shX : Room := { frames := 1, cells := 0, slots := 0, locals := 13 }
theorem g_R_shX : GoodIn GW w_R_shX := gi tm_205
set_option maxHeartbeats 4000000 in
set_option maxRecDepth 100000 in
theorem c_R_shX (l : Launch) (D : va_G) (ct : CT) (A : Nat → Prop) (wt : va_W)  (h0 : Nat) (ra : Int64) (rb : Int64) (rc : Int64) (rx : Int64) (ry : Int64) (rz : Int64) (rs : Int32)   (r0 : Int32 × Int64 × Int64 × Int64 × Int64 × Int64 × Int64 × Int32) (h : f_R_shX ra rb rc rx ry rz rs = r0) : Met l y_R_shX w_R_shX rm_R_shX (va_Pc [.ref h0] (PreM D ct A ([(h0, .inr (1, [.long ra, .long rb, .long rc, .long rx, .long ry, .long rz, .int rs]))] ++ wt))) (va_Qi (fun r u => (r, u) = r0) (fun (u : Int64 × Int64 × Int64 × Int64 × Int64 × Int64 × Int32) t => match u with | (ra', rb', rc', rx', ry', rz', rs') => va_P D classes ([(h0, .inr (1, [.long ra', .long rb', .long rc', .long rx', .long ry', .long rz', .int rs']))] ++ wt) t.heap ∧ va_D A ([(h0, .inr (1, [.long ra', .long rb', .long rc', .long rx', .long ry', .long rz', .int rs']))] ++ wt)) A) 0 0 A := by
  refine Met.ofW (cc := b_R_shX) (maxL := 2) (ret := (some .boolean)) (by decide) rfl ?_
  intro p e s m args below meth c s₁ B hml hv
  obtain ⟨rfl, hA, hP, hD, hKK⟩ := hv
  have hx := B.exec
  have hb := B.bytes
  have hr := B.returns
  have htg := ht_tl (atoms_spec (ws := w_R_shX) B.pre)
  have hown : s.vm.findClass R_Reducer = some m.cls := findClass_of_methodNamed B.named
  have hlocks := B.notSynchronized
  have hK := hKK.1
  have hN := hKK.2.1
  have hO := hKK.2.2
  have hS : va_S A s.heap s.heap [] := va_S.rf
  have hl := lv_entry ([.ref h0]) (n := 2) (Nat.le_of_ble_eq_true rfl)
  rw [lg_entry_eq]
  generalize (lg_sl ([.ref h0]) ++ List.replicate (2 - (lg_sl ([.ref h0])).length) Slot.unset).toArray = ls at hl ⊢
  have hl : lv_has ls 2 [(0, .ref h0)] := hl
  unfold f_R_shX at h
  refine lv_aload_n hx hb d_R_shX_0 rfl (lv_at hl 0 rfl) ?_
  refine va_get (D := D) (ci := 1) (v := .long rx) (C := R_Reducer) (T := F_Reducer) (N := 7) hx hb htg i_Reducer hown hK hP 0 rfl rfl 3 (by decide) (htg _ tm_59) (fun _ h9 => h9) rfl d_R_shX_1 ?_
  refine va_mabs_long hx hb (by rw [hml]; exact hl.1.symm) hown (htg _ tm_188) (htg _ tm_189) (htg _ tm_36) (htg _ tm_190) (Nat.le_of_ble_eq_true rfl) (Nat.le_of_ble_eq_true rfl) (Nat.le_of_ble_eq_true rfl) (Nat.le_of_ble_eq_true rfl) d_R_shX_4 ?_
  refine lv_aload_n hx hb d_R_shX_7 rfl (lv_at hl 0 rfl) ?_
  refine va_get (D := D) (ci := 1) (v := .long rb) (C := R_Reducer) (T := F_Reducer) (N := 7) hx hb htg i_Reducer hown hK hP 0 rfl rfl 1 (by decide) (htg _ tm_57) (fun _ h9 => h9) rfl d_R_shX_8 ?_
  refine W.lcmp hx hb d_R_shX_11 ?_
  refine lv_if_gt (tgt := 65) hx hb d_R_shX_12 (by decide) (fun c_1 => ?_) (fun c_1 => ?_)
  · rw [if_pos c_1] at h
    refine lv_aload_n hx hb d_R_shX_65 rfl (lv_at hl 0 rfl) ?_
    refine va_get (D := D) (ci := 1) (v := .long rx) (C := R_Reducer) (T := F_Reducer) (N := 7) hx hb htg i_Reducer hown hK hP 0 rfl rfl 3 (by decide) (htg _ tm_59) (fun _ h9 => h9) rfl d_R_shX_66 ?_
    refine lv_lconst (v := (0 : Int64)) hx hb d_R_shX_69 (by decide) ?_
    refine W.lcmp hx hb d_R_shX_70 ?_
    refine lv_if_le (tgt := 78) hx hb d_R_shX_71 (by decide) (fun c_2 => ?_) (fun c_2 => ?_)
    · rw [if_pos c_2] at h
      refine lv_iconst (v := (-1 : Int32)) hx hb d_R_shX_78 (by decide) ?_
      refine lv_istore_n (lv' := [(1, .int (-1 : Int32)), (0, .ref h0)]) hx hb d_R_shX_79 rfl hl (by decide) rfl (fun ls hl => ?_)
      refine lv_aload_n hx hb d_R_shX_80 rfl (lv_at hl 1 rfl) ?_
      refine lv_aload_n hx hb d_R_shX_81 rfl (lv_at hl 1 rfl) ?_
      refine va_get (D := D) (ci := 1) (v := .long rb) (C := R_Reducer) (T := F_Reducer) (N := 7) hx hb htg i_Reducer hown hK hP 0 rfl rfl 1 (by decide) (htg _ tm_57) (fun _ h9 => h9) rfl d_R_shX_82 ?_
      refine lv_aload_n hx hb d_R_shX_85 rfl (lv_at hl 1 rfl) ?_
      refine va_get (D := D) (ci := 1) (v := .long rc) (C := R_Reducer) (T := F_Reducer) (N := 7) hx hb htg i_Reducer hown hK hP 0 rfl rfl 2 (by decide) (htg _ tm_58) (fun _ h9 => h9) rfl d_R_shX_86 ?_
      refine lv_ladd hx hb d_R_shX_89 ?_
      refine lv_iload_n hx hb d_R_shX_90 rfl (lv_at hl 0 rfl) ?_
      refine lv_i2l hx hb d_R_shX_91 rfl ?_
      refine lv_aload_n hx hb d_R_shX_92 rfl (lv_at hl 1 rfl) ?_
      refine va_get (D := D) (ci := 1) (v := .long rx) (C := R_Reducer) (T := F_Reducer) (N := 7) hx hb htg i_Reducer hown hK hP 0 rfl rfl 3 (by decide) (htg _ tm_59) (fun _ h9 => h9) rfl d_R_shX_93 ?_
      refine lv_lmul hx hb d_R_shX_96 ?_
      refine lv_lsub hx hb d_R_shX_97 ?_
      refine va_put (D := D) (ci := 1) (v := .long ((rb + rc) - (((-1 : Int32).toInt64) * rx))) (ty := .long) (C := R_Reducer) (T := F_Reducer) (N := 7) hx hb htg i_Reducer t_Reducer t_Reducer_ok n_Reducer hown hK hP hD hS 0 rfl rfl 2 (by decide) (htg _ tm_58) (fun _ h9 => h9) rfl (by decide +kernel) rfl rfl (Nat.le_of_ble_eq_true rfl) d_R_shX_98 (fun H locs hP hD hS => ?_)
      have hP : va_P D classes ([(h0, .inr (1, [.long ra, .long rb, .long ((rb + rc) - (((-1 : Int32).toInt64) * rx)), .long rx, .long ry, .long rz, .int rs]))] ++ wt) H := hP
      have hD : va_D A ([(h0, .inr (1, [.long ra, .long rb, .long ((rb + rc) - (((-1 : Int32).toInt64) * rx)), .long rx, .long ry, .long rz, .int rs]))] ++ wt) := hD
      refine lv_aload_n hx hb d_R_shX_101 rfl (lv_at hl 1 rfl) ?_
      refine lv_aload_n hx hb d_R_shX_102 rfl (lv_at hl 1 rfl) ?_
      refine va_get (D := D) (ci := 1) (v := .long ry) (C := R_Reducer) (T := F_Reducer) (N := 7) hx hb htg i_Reducer hown hK hP 0 rfl rfl 4 (by decide) (htg _ tm_60) (fun _ h9 => h9) rfl d_R_shX_103 ?_
      refine lv_iload_n hx hb d_R_shX_106 rfl (lv_at hl 0 rfl) ?_
      refine lv_i2l hx hb d_R_shX_107 rfl ?_
      refine lv_aload_n hx hb d_R_shX_108 rfl (lv_at hl 1 rfl) ?_
      refine va_get (D := D) (ci := 1) (v := .long rz) (C := R_Reducer) (T := F_Reducer) (N := 7) hx hb htg i_Reducer hown hK hP 0 rfl rfl 5 (by decide) (htg _ tm_61) (fun _ h9 => h9) rfl d_R_shX_109 ?_
      refine lv_lmul hx hb d_R_shX_112 ?_
      refine lv_lsub hx hb d_R_shX_113 ?_
      refine va_put (D := D) (ci := 1) (v := .long (ry - (((-1 : Int32).toInt64) * rz))) (ty := .long) (C := R_Reducer) (T := F_Reducer) (N := 7) hx hb htg i_Reducer t_Reducer t_Reducer_ok n_Reducer hown hK hP hD hS 0 rfl rfl 4 (by decide) (htg _ tm_60) (fun _ h9 => h9) rfl (by decide +kernel) rfl rfl (Nat.le_of_ble_eq_true rfl) d_R_shX_114 (fun H locs hP hD hS => ?_)
      have hP : va_P D classes ([(h0, .inr (1, [.long ra, .long rb, .long ((rb + rc) - (((-1 : Int32).toInt64) * rx)), .long rx, .long (ry - (((-1 : Int32).toInt64) * rz)), .long rz, .int rs]))] ++ wt) H := hP
      have hD : va_D A ([(h0, .inr (1, [.long ra, .long rb, .long ((rb + rc) - (((-1 : Int32).toInt64) * rx)), .long rx, .long (ry - (((-1 : Int32).toInt64) * rz)), .long rz, .int rs]))] ++ wt) := hD
      refine lv_aload_n hx hb d_R_shX_117 rfl (lv_at hl 1 rfl) ?_
      refine lv_aload_n hx hb d_R_shX_118 rfl (lv_at hl 1 rfl) ?_
      refine va_get (D := D) (ci := 1) (v := .long rx) (C := R_Reducer) (T := F_Reducer) (N := 7) hx hb htg i_Reducer hown hK hP 0 rfl rfl 3 (by decide) (htg _ tm_59) (fun _ h9 => h9) rfl d_R_shX_119 ?_
      refine lv_iconst (v := (2 : Int32)) hx hb d_R_shX_122 (by decide) ?_
      refine lv_iload_n hx hb d_R_shX_123 rfl (lv_at hl 0 rfl) ?_
      refine lv_imul hx hb d_R_shX_124 ?_
      refine lv_i2l hx hb d_R_shX_125 rfl ?_
      refine lv_aload_n hx hb d_R_shX_126 rfl (lv_at hl 1 rfl) ?_
      refine va_get (D := D) (ci := 1) (v := .long rb) (C := R_Reducer) (T := F_Reducer) (N := 7) hx hb htg i_Reducer hown hK hP 0 rfl rfl 1 (by decide) (htg _ tm_57) (fun _ h9 => h9) rfl d_R_shX_127 ?_
      refine lv_lmul hx hb d_R_shX_130 ?_
      refine lv_lsub hx hb d_R_shX_131 ?_
      refine va_put (D := D) (ci := 1) (v := .long (rx - ((((2 : Int32) * (-1 : Int32)).toInt64) * rb))) (ty := .long) (C := R_Reducer) (T := F_Reducer) (N := 7) hx hb htg i_Reducer t_Reducer t_Reducer_ok n_Reducer hown hK hP hD hS 0 rfl rfl 3 (by decide) (htg _ tm_59) (fun _ h9 => h9) rfl (by decide +kernel) rfl rfl (Nat.le_of_ble_eq_true rfl) d_R_shX_132 (fun H locs hP hD hS => ?_)
      have hP : va_P D classes ([(h0, .inr (1, [.long ra, .long rb, .long ((rb + rc) - (((-1 : Int32).toInt64) * rx)), .long (rx - ((((2 : Int32) * (-1 : Int32)).toInt64) * rb)), .long (ry - (((-1 : Int32).toInt64) * rz)), .long rz, .int rs]))] ++ wt) H := hP
      have hD : va_D A ([(h0, .inr (1, [.long ra, .long rb, .long ((rb + rc) - (((-1 : Int32).toInt64) * rx)), .long (rx - ((((2 : Int32) * (-1 : Int32)).toInt64) * rb)), .long (ry - (((-1 : Int32).toInt64) * rz)), .long rz, .int rs]))] ++ wt) := hD
      refine lv_iconst (v := (1 : Int32)) hx hb d_R_shX_135 (by decide) ?_
      exact W.zret (v := (1 : Int32)) (ty := .boolean) hx hb hr rfl (fun t ht hW => ⟨⟨(1 : Int32), (ra, rb, (rb + rc) - (((-1 : Int32).toInt64) * rx), rx - ((((2 : Int32) * (-1 : Int32)).toInt64) * rb), ry - (((-1 : Int32).toInt64) * rz), rz, rs), rfl, h, by rw [ht]; exact hP, hD⟩, hS.F ht⟩) hS.2.2 d_R_shX_136
    · rw [if_neg c_2] at h
      refine lv_iconst (v := (1 : Int32)) hx hb d_R_shX_74 (by decide) ?_
      refine lv_goto (tgt := 79) hx hb d_R_shX_75 (by decide) ?_
      refine lv_istore_n (lv' := [(1, .int (1 : Int32)), (0, .ref h0)]) hx hb d_R_shX_79 rfl hl (by decide) rfl (fun ls hl => ?_)
      refine lv_aload_n hx hb d_R_shX_80 rfl (lv_at hl 1 rfl) ?_
      refine lv_aload_n hx hb d_R_shX_81 rfl (lv_at hl 1 rfl) ?_
      refine va_get (D := D) (ci := 1) (v := .long rb) (C := R_Reducer) (T := F_Reducer) (N := 7) hx hb htg i_Reducer hown hK hP 0 rfl rfl 1 (by decide) (htg _ tm_57) (fun _ h9 => h9) rfl d_R_shX_82 ?_
      refine lv_aload_n hx hb d_R_shX_85 rfl (lv_at hl 1 rfl) ?_
      refine va_get (D := D) (ci := 1) (v := .long rc) (C := R_Reducer) (T := F_Reducer) (N := 7) hx hb htg i_Reducer hown hK hP 0 rfl rfl 2 (by decide) (htg _ tm_58) (fun _ h9 => h9) rfl d_R_shX_86 ?_
      refine lv_ladd hx hb d_R_shX_89 ?_
      refine lv_iload_n hx hb d_R_shX_90 rfl (lv_at hl 0 rfl) ?_
      refine lv_i2l hx hb d_R_shX_91 rfl ?_
      refine lv_aload_n hx hb d_R_shX_92 rfl (lv_at hl 1 rfl) ?_
      refine va_get (D := D) (ci := 1) (v := .long rx) (C := R_Reducer) (T := F_Reducer) (N := 7) hx hb htg i_Reducer hown hK hP 0 rfl rfl 3 (by decide) (htg _ tm_59) (fun _ h9 => h9) rfl d_R_shX_93 ?_
      refine lv_lmul hx hb d_R_shX_96 ?_
      refine lv_lsub hx hb d_R_shX_97 ?_
      refine va_put (D := D) (ci := 1) (v := .long ((rb + rc) - (((1 : Int32).toInt64) * rx))) (ty := .long) (C := R_Reducer) (T := F_Reducer) (N := 7) hx hb htg i_Reducer t_Reducer t_Reducer_ok n_Reducer hown hK hP hD hS 0 rfl rfl 2 (by decide) (htg _ tm_58) (fun _ h9 => h9) rfl (by decide +kernel) rfl rfl (Nat.le_of_ble_eq_true rfl) d_R_shX_98 (fun H locs hP hD hS => ?_)
      have hP : va_P D classes ([(h0, .inr (1, [.long ra, .long rb, .long ((rb + rc) - (((1 : Int32).toInt64) * rx)), .long rx, .long ry, .long rz, .int rs]))] ++ wt) H := hP
      have hD : va_D A ([(h0, .inr (1, [.long ra, .long rb, .long ((rb + rc) - (((1 : Int32).toInt64) * rx)), .long rx, .long ry, .long rz, .int rs]))] ++ wt) := hD
      refine lv_aload_n hx hb d_R_shX_101 rfl (lv_at hl 1 rfl) ?_
      refine lv_aload_n hx hb d_R_shX_102 rfl (lv_at hl 1 rfl) ?_
      refine va_get (D := D) (ci := 1) (v := .long ry) (C := R_Reducer) (T := F_Reducer) (N := 7) hx hb htg i_Reducer hown hK hP 0 rfl rfl 4 (by decide) (htg _ tm_60) (fun _ h9 => h9) rfl d_R_shX_103 ?_
      refine lv_iload_n hx hb d_R_shX_106 rfl (lv_at hl 0 rfl) ?_
      refine lv_i2l hx hb d_R_shX_107 rfl ?_
      refine lv_aload_n hx hb d_R_shX_108 rfl (lv_at hl 1 rfl) ?_
      refine va_get (D := D) (ci := 1) (v := .long rz) (C := R_Reducer) (T := F_Reducer) (N := 7) hx hb htg i_Reducer hown hK hP 0 rfl rfl 5 (by decide) (htg _ tm_61) (fun _ h9 => h9) rfl d_R_shX_109 ?_
      refine lv_lmul hx hb d_R_shX_112 ?_
      refine lv_lsub hx hb d_R_shX_113 ?_
      refine va_put (D := D) (ci := 1) (v := .long (ry - (((1 : Int32).toInt64) * rz))) (ty := .long) (C := R_Reducer) (T := F_Reducer) (N := 7) hx hb htg i_Reducer t_Reducer t_Reducer_ok n_Reducer hown hK hP hD hS 0 rfl rfl 4 (by decide) (htg _ tm_60) (fun _ h9 => h9) rfl (by decide +kernel) rfl rfl (Nat.le_of_ble_eq_true rfl) d_R_shX_114 (fun H locs hP hD hS => ?_)
      have hP : va_P D classes ([(h0, .inr (1, [.long ra, .long rb, .long ((rb + rc) - (((1 : Int32).toInt64) * rx)), .long rx, .long (ry - (((1 : Int32).toInt64) * rz)), .long rz, .int rs]))] ++ wt) H := hP
      have hD : va_D A ([(h0, .inr (1, [.long ra, .long rb, .long ((rb + rc) - (((1 : Int32).toInt64) * rx)), .long rx, .long (ry - (((1 : Int32).toInt64) * rz)), .long rz, .int rs]))] ++ wt) := hD
      refine lv_aload_n hx hb d_R_shX_117 rfl (lv_at hl 1 rfl) ?_
      refine lv_aload_n hx hb d_R_shX_118 rfl (lv_at hl 1 rfl) ?_
      refine va_get (D := D) (ci := 1) (v := .long rx) (C := R_Reducer) (T := F_Reducer) (N := 7) hx hb htg i_Reducer hown hK hP 0 rfl rfl 3 (by decide) (htg _ tm_59) (fun _ h9 => h9) rfl d_R_shX_119 ?_
      refine lv_iconst (v := (2 : Int32)) hx hb d_R_shX_122 (by decide) ?_
      refine lv_iload_n hx hb d_R_shX_123 rfl (lv_at hl 0 rfl) ?_
      refine lv_imul hx hb d_R_shX_124 ?_
      refine lv_i2l hx hb d_R_shX_125 rfl ?_
      refine lv_aload_n hx hb d_R_shX_126 rfl (lv_at hl 1 rfl) ?_
      refine va_get (D := D) (ci := 1) (v := .long rb) (C := R_Reducer) (T := F_Reducer) (N := 7) hx hb htg i_Reducer hown hK hP 0 rfl rfl 1 (by decide) (htg _ tm_57) (fun _ h9 => h9) rfl d_R_shX_127 ?_
      refine lv_lmul hx hb d_R_shX_130 ?_
      refine lv_lsub hx hb d_R_shX_131 ?_
      refine va_put (D := D) (ci := 1) (v := .long (rx - ((((2 : Int32) * (1 : Int32)).toInt64) * rb))) (ty := .long) (C := R_Reducer) (T := F_Reducer) (N := 7) hx hb htg i_Reducer t_Reducer t_Reducer_ok n_Reducer hown hK hP hD hS 0 rfl rfl 3 (by decide) (htg _ tm_59) (fun _ h9 => h9) rfl (by decide +kernel) rfl rfl (Nat.le_of_ble_eq_true rfl) d_R_shX_132 (fun H locs hP hD hS => ?_)
      have hP : va_P D classes ([(h0, .inr (1, [.long ra, .long rb, .long ((rb + rc) - (((1 : Int32).toInt64) * rx)), .long (rx - ((((2 : Int32) * (1 : Int32)).toInt64) * rb)), .long (ry - (((1 : Int32).toInt64) * rz)), .long rz, .int rs]))] ++ wt) H := hP
      have hD : va_D A ([(h0, .inr (1, [.long ra, .long rb, .long ((rb + rc) - (((1 : Int32).toInt64) * rx)), .long (rx - ((((2 : Int32) * (1 : Int32)).toInt64) * rb)), .long (ry - (((1 : Int32).toInt64) * rz)), .long rz, .int rs]))] ++ wt) := hD
      refine lv_iconst (v := (1 : Int32)) hx hb d_R_shX_135 (by decide) ?_
      exact W.zret (v := (1 : Int32)) (ty := .boolean) hx hb hr rfl (fun t ht hW => ⟨⟨(1 : Int32), (ra, rb, (rb + rc) - (((1 : Int32).toInt64) * rx), rx - ((((2 : Int32) * (1 : Int32)).toInt64) * rb), ry - (((1 : Int32).toInt64) * rz), rz, rs), rfl, h, by rw [ht]; exact hP, hD⟩, hS.F ht⟩) hS.2.2 d_R_shX_136
  · rw [if_neg c_1] at h
    refine lv_aload_n hx hb d_R_shX_15 rfl (lv_at hl 0 rfl) ?_
    refine va_get (D := D) (ci := 1) (v := .long rx) (C := R_Reducer) (T := F_Reducer) (N := 7) hx hb htg i_Reducer hown hK hP 0 rfl rfl 3 (by decide) (htg _ tm_59) (fun _ h9 => h9) rfl d_R_shX_16 ?_
    refine lv_aload_n hx hb d_R_shX_19 rfl (lv_at hl 0 rfl) ?_
    refine va_get (D := D) (ci := 1) (v := .long rb) (C := R_Reducer) (T := F_Reducer) (N := 7) hx hb htg i_Reducer hown hK hP 0 rfl rfl 1 (by decide) (htg _ tm_57) (fun _ h9 => h9) rfl d_R_shX_20 ?_
    refine W.lcmp hx hb d_R_shX_23 ?_
    refine lv_if_ne (tgt := 43) hx hb d_R_shX_24 (by decide) (fun c_3 => ?_) (fun c_3 => ?_)
    · rw [if_neg c_3] at h
      refine lv_aload_n hx hb d_R_shX_43 rfl (lv_at hl 0 rfl) ?_
      refine va_get (D := D) (ci := 1) (v := .long rx) (C := R_Reducer) (T := F_Reducer) (N := 7) hx hb htg i_Reducer hown hK hP 0 rfl rfl 3 (by decide) (htg _ tm_59) (fun _ h9 => h9) rfl d_R_shX_44 ?_
      refine lv_aload_n hx hb d_R_shX_47 rfl (lv_at hl 0 rfl) ?_
      refine va_get (D := D) (ci := 1) (v := .long rb) (C := R_Reducer) (T := F_Reducer) (N := 7) hx hb htg i_Reducer hown hK hP 0 rfl rfl 1 (by decide) (htg _ tm_57) (fun _ h9 => h9) rfl d_R_shX_48 ?_
      refine lv_lneg hx hb d_R_shX_51 ?_
      refine W.lcmp hx hb d_R_shX_52 ?_
      refine lv_if_ne (tgt := 137) hx hb d_R_shX_53 (by decide) (fun c_4 => ?_) (fun c_4 => ?_)
      · rw [if_neg c_4] at h
        refine lv_iconst (v := (0 : Int32)) hx hb d_R_shX_137 (by decide) ?_
        exact W.zret (v := (0 : Int32)) (ty := .boolean) hx hb hr rfl (fun t ht hW => ⟨⟨(0 : Int32), (ra, rb, rc, rx, ry, rz, rs), rfl, h, by rw [ht]; exact hP, hD⟩, hS.F ht⟩) hS.2.2 d_R_shX_138
      · rw [if_pos c_4] at h
        refine lv_aload_n hx hb d_R_shX_56 rfl (lv_at hl 0 rfl) ?_
        refine va_get (D := D) (ci := 1) (v := .long rz) (C := R_Reducer) (T := F_Reducer) (N := 7) hx hb htg i_Reducer hown hK hP 0 rfl rfl 5 (by decide) (htg _ tm_61) (fun _ h9 => h9) rfl d_R_shX_57 ?_
        refine lv_lconst (v := (0 : Int64)) hx hb d_R_shX_60 (by decide) ?_
        refine W.lcmp hx hb d_R_shX_61 ?_
        refine lv_if_ge (tgt := 137) hx hb d_R_shX_62 (by decide) (fun c_5 => ?_) (fun c_5 => ?_)
        · rw [if_pos c_5] at h
          refine lv_iconst (v := (0 : Int32)) hx hb d_R_shX_137 (by decide) ?_
          exact W.zret (v := (0 : Int32)) (ty := .boolean) hx hb hr rfl (fun t ht hW => ⟨⟨(0 : Int32), (ra, rb, rc, rx, ry, rz, rs), rfl, h, by rw [ht]; exact hP, hD⟩, hS.F ht⟩) hS.2.2 d_R_shX_138
        · rw [if_neg c_5] at h
          refine lv_aload_n hx hb d_R_shX_65 rfl (lv_at hl 0 rfl) ?_
          refine va_get (D := D) (ci := 1) (v := .long rx) (C := R_Reducer) (T := F_Reducer) (N := 7) hx hb htg i_Reducer hown hK hP 0 rfl rfl 3 (by decide) (htg _ tm_59) (fun _ h9 => h9) rfl d_R_shX_66 ?_
          refine lv_lconst (v := (0 : Int64)) hx hb d_R_shX_69 (by decide) ?_
          refine W.lcmp hx hb d_R_shX_70 ?_
          refine lv_if_le (tgt := 78) hx hb d_R_shX_71 (by decide) (fun c_6 => ?_) (fun c_6 => ?_)
          · rw [if_pos c_6] at h
            refine lv_iconst (v := (-1 : Int32)) hx hb d_R_shX_78 (by decide) ?_
            refine lv_istore_n (lv' := [(1, .int (-1 : Int32)), (0, .ref h0)]) hx hb d_R_shX_79 rfl hl (by decide) rfl (fun ls hl => ?_)
            refine lv_aload_n hx hb d_R_shX_80 rfl (lv_at hl 1 rfl) ?_
            refine lv_aload_n hx hb d_R_shX_81 rfl (lv_at hl 1 rfl) ?_
            refine va_get (D := D) (ci := 1) (v := .long rb) (C := R_Reducer) (T := F_Reducer) (N := 7) hx hb htg i_Reducer hown hK hP 0 rfl rfl 1 (by decide) (htg _ tm_57) (fun _ h9 => h9) rfl d_R_shX_82 ?_
            refine lv_aload_n hx hb d_R_shX_85 rfl (lv_at hl 1 rfl) ?_
            refine va_get (D := D) (ci := 1) (v := .long rc) (C := R_Reducer) (T := F_Reducer) (N := 7) hx hb htg i_Reducer hown hK hP 0 rfl rfl 2 (by decide) (htg _ tm_58) (fun _ h9 => h9) rfl d_R_shX_86 ?_
            refine lv_ladd hx hb d_R_shX_89 ?_
            refine lv_iload_n hx hb d_R_shX_90 rfl (lv_at hl 0 rfl) ?_
            refine lv_i2l hx hb d_R_shX_91 rfl ?_
            refine lv_aload_n hx hb d_R_shX_92 rfl (lv_at hl 1 rfl) ?_
            refine va_get (D := D) (ci := 1) (v := .long rx) (C := R_Reducer) (T := F_Reducer) (N := 7) hx hb htg i_Reducer hown hK hP 0 rfl rfl 3 (by decide) (htg _ tm_59) (fun _ h9 => h9) rfl d_R_shX_93 ?_
            refine lv_lmul hx hb d_R_shX_96 ?_
            refine lv_lsub hx hb d_R_shX_97 ?_
            refine va_put (D := D) (ci := 1) (v := .long ((rb + rc) - (((-1 : Int32).toInt64) * rx))) (ty := .long) (C := R_Reducer) (T := F_Reducer) (N := 7) hx hb htg i_Reducer t_Reducer t_Reducer_ok n_Reducer hown hK hP hD hS 0 rfl rfl 2 (by decide) (htg _ tm_58) (fun _ h9 => h9) rfl (by decide +kernel) rfl rfl (Nat.le_of_ble_eq_true rfl) d_R_shX_98 (fun H locs hP hD hS => ?_)
            have hP : va_P D classes ([(h0, .inr (1, [.long ra, .long rb, .long ((rb + rc) - (((-1 : Int32).toInt64) * rx)), .long rx, .long ry, .long rz, .int rs]))] ++ wt) H := hP
            have hD : va_D A ([(h0, .inr (1, [.long ra, .long rb, .long ((rb + rc) - (((-1 : Int32).toInt64) * rx)), .long rx, .long ry, .long rz, .int rs]))] ++ wt) := hD
            refine lv_aload_n hx hb d_R_shX_101 rfl (lv_at hl 1 rfl) ?_
            refine lv_aload_n hx hb d_R_shX_102 rfl (lv_at hl 1 rfl) ?_
            refine va_get (D := D) (ci := 1) (v := .long ry) (C := R_Reducer) (T := F_Reducer) (N := 7) hx hb htg i_Reducer hown hK hP 0 rfl rfl 4 (by decide) (htg _ tm_60) (fun _ h9 => h9) rfl d_R_shX_103 ?_
            refine lv_iload_n hx hb d_R_shX_106 rfl (lv_at hl 0 rfl) ?_
            refine lv_i2l hx hb d_R_shX_107 rfl ?_
            refine lv_aload_n hx hb d_R_shX_108 rfl (lv_at hl 1 rfl) ?_
            refine va_get (D := D) (ci := 1) (v := .long rz) (C := R_Reducer) (T := F_Reducer) (N := 7) hx hb htg i_Reducer hown hK hP 0 rfl rfl 5 (by decide) (htg _ tm_61) (fun _ h9 => h9) rfl d_R_shX_109 ?_
            refine lv_lmul hx hb d_R_shX_112 ?_
            refine lv_lsub hx hb d_R_shX_113 ?_
            refine va_put (D := D) (ci := 1) (v := .long (ry - (((-1 : Int32).toInt64) * rz))) (ty := .long) (C := R_Reducer) (T := F_Reducer) (N := 7) hx hb htg i_Reducer t_Reducer t_Reducer_ok n_Reducer hown hK hP hD hS 0 rfl rfl 4 (by decide) (htg _ tm_60) (fun _ h9 => h9) rfl (by decide +kernel) rfl rfl (Nat.le_of_ble_eq_true rfl) d_R_shX_114 (fun H locs hP hD hS => ?_)
            have hP : va_P D classes ([(h0, .inr (1, [.long ra, .long rb, .long ((rb + rc) - (((-1 : Int32).toInt64) * rx)), .long rx, .long (ry - (((-1 : Int32).toInt64) * rz)), .long rz, .int rs]))] ++ wt) H := hP
            have hD : va_D A ([(h0, .inr (1, [.long ra, .long rb, .long ((rb + rc) - (((-1 : Int32).toInt64) * rx)), .long rx, .long (ry - (((-1 : Int32).toInt64) * rz)), .long rz, .int rs]))] ++ wt) := hD
            refine lv_aload_n hx hb d_R_shX_117 rfl (lv_at hl 1 rfl) ?_
            refine lv_aload_n hx hb d_R_shX_118 rfl (lv_at hl 1 rfl) ?_
            refine va_get (D := D) (ci := 1) (v := .long rx) (C := R_Reducer) (T := F_Reducer) (N := 7) hx hb htg i_Reducer hown hK hP 0 rfl rfl 3 (by decide) (htg _ tm_59) (fun _ h9 => h9) rfl d_R_shX_119 ?_
            refine lv_iconst (v := (2 : Int32)) hx hb d_R_shX_122 (by decide) ?_
            refine lv_iload_n hx hb d_R_shX_123 rfl (lv_at hl 0 rfl) ?_
            refine lv_imul hx hb d_R_shX_124 ?_
            refine lv_i2l hx hb d_R_shX_125 rfl ?_
            refine lv_aload_n hx hb d_R_shX_126 rfl (lv_at hl 1 rfl) ?_
            refine va_get (D := D) (ci := 1) (v := .long rb) (C := R_Reducer) (T := F_Reducer) (N := 7) hx hb htg i_Reducer hown hK hP 0 rfl rfl 1 (by decide) (htg _ tm_57) (fun _ h9 => h9) rfl d_R_shX_127 ?_
            refine lv_lmul hx hb d_R_shX_130 ?_
            refine lv_lsub hx hb d_R_shX_131 ?_
            refine va_put (D := D) (ci := 1) (v := .long (rx - ((((2 : Int32) * (-1 : Int32)).toInt64) * rb))) (ty := .long) (C := R_Reducer) (T := F_Reducer) (N := 7) hx hb htg i_Reducer t_Reducer t_Reducer_ok n_Reducer hown hK hP hD hS 0 rfl rfl 3 (by decide) (htg _ tm_59) (fun _ h9 => h9) rfl (by decide +kernel) rfl rfl (Nat.le_of_ble_eq_true rfl) d_R_shX_132 (fun H locs hP hD hS => ?_)
            have hP : va_P D classes ([(h0, .inr (1, [.long ra, .long rb, .long ((rb + rc) - (((-1 : Int32).toInt64) * rx)), .long (rx - ((((2 : Int32) * (-1 : Int32)).toInt64) * rb)), .long (ry - (((-1 : Int32).toInt64) * rz)), .long rz, .int rs]))] ++ wt) H := hP
            have hD : va_D A ([(h0, .inr (1, [.long ra, .long rb, .long ((rb + rc) - (((-1 : Int32).toInt64) * rx)), .long (rx - ((((2 : Int32) * (-1 : Int32)).toInt64) * rb)), .long (ry - (((-1 : Int32).toInt64) * rz)), .long rz, .int rs]))] ++ wt) := hD
            refine lv_iconst (v := (1 : Int32)) hx hb d_R_shX_135 (by decide) ?_
            exact W.zret (v := (1 : Int32)) (ty := .boolean) hx hb hr rfl (fun t ht hW => ⟨⟨(1 : Int32), (ra, rb, (rb + rc) - (((-1 : Int32).toInt64) * rx), rx - ((((2 : Int32) * (-1 : Int32)).toInt64) * rb), ry - (((-1 : Int32).toInt64) * rz), rz, rs), rfl, h, by rw [ht]; exact hP, hD⟩, hS.F ht⟩) hS.2.2 d_R_shX_136
          · rw [if_neg c_6] at h
            refine lv_iconst (v := (1 : Int32)) hx hb d_R_shX_74 (by decide) ?_
            refine lv_goto (tgt := 79) hx hb d_R_shX_75 (by decide) ?_
            refine lv_istore_n (lv' := [(1, .int (1 : Int32)), (0, .ref h0)]) hx hb d_R_shX_79 rfl hl (by decide) rfl (fun ls hl => ?_)
            refine lv_aload_n hx hb d_R_shX_80 rfl (lv_at hl 1 rfl) ?_
            refine lv_aload_n hx hb d_R_shX_81 rfl (lv_at hl 1 rfl) ?_
            refine va_get (D := D) (ci := 1) (v := .long rb) (C := R_Reducer) (T := F_Reducer) (N := 7) hx hb htg i_Reducer hown hK hP 0 rfl rfl 1 (by decide) (htg _ tm_57) (fun _ h9 => h9) rfl d_R_shX_82 ?_
            refine lv_aload_n hx hb d_R_shX_85 rfl (lv_at hl 1 rfl) ?_
            refine va_get (D := D) (ci := 1) (v := .long rc) (C := R_Reducer) (T := F_Reducer) (N := 7) hx hb htg i_Reducer hown hK hP 0 rfl rfl 2 (by decide) (htg _ tm_58) (fun _ h9 => h9) rfl d_R_shX_86 ?_
            refine lv_ladd hx hb d_R_shX_89 ?_
            refine lv_iload_n hx hb d_R_shX_90 rfl (lv_at hl 0 rfl) ?_
            refine lv_i2l hx hb d_R_shX_91 rfl ?_
            refine lv_aload_n hx hb d_R_shX_92 rfl (lv_at hl 1 rfl) ?_
            refine va_get (D := D) (ci := 1) (v := .long rx) (C := R_Reducer) (T := F_Reducer) (N := 7) hx hb htg i_Reducer hown hK hP 0 rfl rfl 3 (by decide) (htg _ tm_59) (fun _ h9 => h9) rfl d_R_shX_93 ?_
            refine lv_lmul hx hb d_R_shX_96 ?_
            refine lv_lsub hx hb d_R_shX_97 ?_
            refine va_put (D := D) (ci := 1) (v := .long ((rb + rc) - (((1 : Int32).toInt64) * rx))) (ty := .long) (C := R_Reducer) (T := F_Reducer) (N := 7) hx hb htg i_Reducer t_Reducer t_Reducer_ok n_Reducer hown hK hP hD hS 0 rfl rfl 2 (by decide) (htg _ tm_58) (fun _ h9 => h9) rfl (by decide +kernel) rfl rfl (Nat.le_of_ble_eq_true rfl) d_R_shX_98 (fun H locs hP hD hS => ?_)
            have hP : va_P D classes ([(h0, .inr (1, [.long ra, .long rb, .long ((rb + rc) - (((1 : Int32).toInt64) * rx)), .long rx, .long ry, .long rz, .int rs]))] ++ wt) H := hP
            have hD : va_D A ([(h0, .inr (1, [.long ra, .long rb, .long ((rb + rc) - (((1 : Int32).toInt64) * rx)), .long rx, .long ry, .long rz, .int rs]))] ++ wt) := hD
            refine lv_aload_n hx hb d_R_shX_101 rfl (lv_at hl 1 rfl) ?_
            refine lv_aload_n hx hb d_R_shX_102 rfl (lv_at hl 1 rfl) ?_
            refine va_get (D := D) (ci := 1) (v := .long ry) (C := R_Reducer) (T := F_Reducer) (N := 7) hx hb htg i_Reducer hown hK hP 0 rfl rfl 4 (by decide) (htg _ tm_60) (fun _ h9 => h9) rfl d_R_shX_103 ?_
            refine lv_iload_n hx hb d_R_shX_106 rfl (lv_at hl 0 rfl) ?_
            refine lv_i2l hx hb d_R_shX_107 rfl ?_
            refine lv_aload_n hx hb d_R_shX_108 rfl (lv_at hl 1 rfl) ?_
            refine va_get (D := D) (ci := 1) (v := .long rz) (C := R_Reducer) (T := F_Reducer) (N := 7) hx hb htg i_Reducer hown hK hP 0 rfl rfl 5 (by decide) (htg _ tm_61) (fun _ h9 => h9) rfl d_R_shX_109 ?_
            refine lv_lmul hx hb d_R_shX_112 ?_
            refine lv_lsub hx hb d_R_shX_113 ?_
            refine va_put (D := D) (ci := 1) (v := .long (ry - (((1 : Int32).toInt64) * rz))) (ty := .long) (C := R_Reducer) (T := F_Reducer) (N := 7) hx hb htg i_Reducer t_Reducer t_Reducer_ok n_Reducer hown hK hP hD hS 0 rfl rfl 4 (by decide) (htg _ tm_60) (fun _ h9 => h9) rfl (by decide +kernel) rfl rfl (Nat.le_of_ble_eq_true rfl) d_R_shX_114 (fun H locs hP hD hS => ?_)
            have hP : va_P D classes ([(h0, .inr (1, [.long ra, .long rb, .long ((rb + rc) - (((1 : Int32).toInt64) * rx)), .long rx, .long (ry - (((1 : Int32).toInt64) * rz)), .long rz, .int rs]))] ++ wt) H := hP
            have hD : va_D A ([(h0, .inr (1, [.long ra, .long rb, .long ((rb + rc) - (((1 : Int32).toInt64) * rx)), .long rx, .long (ry - (((1 : Int32).toInt64) * rz)), .long rz, .int rs]))] ++ wt) := hD
            refine lv_aload_n hx hb d_R_shX_117 rfl (lv_at hl 1 rfl) ?_
            refine lv_aload_n hx hb d_R_shX_118 rfl (lv_at hl 1 rfl) ?_
            refine va_get (D := D) (ci := 1) (v := .long rx) (C := R_Reducer) (T := F_Reducer) (N := 7) hx hb htg i_Reducer hown hK hP 0 rfl rfl 3 (by decide) (htg _ tm_59) (fun _ h9 => h9) rfl d_R_shX_119 ?_
            refine lv_iconst (v := (2 : Int32)) hx hb d_R_shX_122 (by decide) ?_
            refine lv_iload_n hx hb d_R_shX_123 rfl (lv_at hl 0 rfl) ?_
            refine lv_imul hx hb d_R_shX_124 ?_
            refine lv_i2l hx hb d_R_shX_125 rfl ?_
            refine lv_aload_n hx hb d_R_shX_126 rfl (lv_at hl 1 rfl) ?_
            refine va_get (D := D) (ci := 1) (v := .long rb) (C := R_Reducer) (T := F_Reducer) (N := 7) hx hb htg i_Reducer hown hK hP 0 rfl rfl 1 (by decide) (htg _ tm_57) (fun _ h9 => h9) rfl d_R_shX_127 ?_
            refine lv_lmul hx hb d_R_shX_130 ?_
            refine lv_lsub hx hb d_R_shX_131 ?_
            refine va_put (D := D) (ci := 1) (v := .long (rx - ((((2 : Int32) * (1 : Int32)).toInt64) * rb))) (ty := .long) (C := R_Reducer) (T := F_Reducer) (N := 7) hx hb htg i_Reducer t_Reducer t_Reducer_ok n_Reducer hown hK hP hD hS 0 rfl rfl 3 (by decide) (htg _ tm_59) (fun _ h9 => h9) rfl (by decide +kernel) rfl rfl (Nat.le_of_ble_eq_true rfl) d_R_shX_132 (fun H locs hP hD hS => ?_)
            have hP : va_P D classes ([(h0, .inr (1, [.long ra, .long rb, .long ((rb + rc) - (((1 : Int32).toInt64) * rx)), .long (rx - ((((2 : Int32) * (1 : Int32)).toInt64) * rb)), .long (ry - (((1 : Int32).toInt64) * rz)), .long rz, .int rs]))] ++ wt) H := hP
            have hD : va_D A ([(h0, .inr (1, [.long ra, .long rb, .long ((rb + rc) - (((1 : Int32).toInt64) * rx)), .long (rx - ((((2 : Int32) * (1 : Int32)).toInt64) * rb)), .long (ry - (((1 : Int32).toInt64) * rz)), .long rz, .int rs]))] ++ wt) := hD
            refine lv_iconst (v := (1 : Int32)) hx hb d_R_shX_135 (by decide) ?_
            exact W.zret (v := (1 : Int32)) (ty := .boolean) hx hb hr rfl (fun t ht hW => ⟨⟨(1 : Int32), (ra, rb, (rb + rc) - (((1 : Int32).toInt64) * rx), rx - ((((2 : Int32) * (1 : Int32)).toInt64) * rb), ry - (((1 : Int32).toInt64) * rz), rz, rs), rfl, h, by rw [ht]; exact hP, hD⟩, hS.F ht⟩) hS.2.2 d_R_shX_136
    · rw [if_pos c_3] at h
      refine lv_ldc2 (v := (2 : Int64)) hx hb hown (htg _ tm_178) d_R_shX_27 ?_
      refine lv_aload_n hx hb d_R_shX_30 rfl (lv_at hl 0 rfl) ?_
      refine va_get (D := D) (ci := 1) (v := .long ry) (C := R_Reducer) (T := F_Reducer) (N := 7) hx hb htg i_Reducer hown hK hP 0 rfl rfl 4 (by decide) (htg _ tm_60) (fun _ h9 => h9) rfl d_R_shX_31 ?_
      refine lv_lmul hx hb d_R_shX_34 ?_
      refine lv_aload_n hx hb d_R_shX_35 rfl (lv_at hl 0 rfl) ?_
      refine va_get (D := D) (ci := 1) (v := .long rz) (C := R_Reducer) (T := F_Reducer) (N := 7) hx hb htg i_Reducer hown hK hP 0 rfl rfl 5 (by decide) (htg _ tm_61) (fun _ h9 => h9) rfl d_R_shX_36 ?_
      refine W.lcmp hx hb d_R_shX_39 ?_
      refine lv_if_lt (tgt := 65) hx hb d_R_shX_40 (by decide) (fun c_7 => ?_) (fun c_7 => ?_)
      · rw [if_pos c_7] at h
        refine lv_aload_n hx hb d_R_shX_65 rfl (lv_at hl 0 rfl) ?_
        refine va_get (D := D) (ci := 1) (v := .long rx) (C := R_Reducer) (T := F_Reducer) (N := 7) hx hb htg i_Reducer hown hK hP 0 rfl rfl 3 (by decide) (htg _ tm_59) (fun _ h9 => h9) rfl d_R_shX_66 ?_
        refine lv_lconst (v := (0 : Int64)) hx hb d_R_shX_69 (by decide) ?_
        refine W.lcmp hx hb d_R_shX_70 ?_
        refine lv_if_le (tgt := 78) hx hb d_R_shX_71 (by decide) (fun c_8 => ?_) (fun c_8 => ?_)
        · rw [if_pos c_8] at h
          refine lv_iconst (v := (-1 : Int32)) hx hb d_R_shX_78 (by decide) ?_
          refine lv_istore_n (lv' := [(1, .int (-1 : Int32)), (0, .ref h0)]) hx hb d_R_shX_79 rfl hl (by decide) rfl (fun ls hl => ?_)
          refine lv_aload_n hx hb d_R_shX_80 rfl (lv_at hl 1 rfl) ?_
          refine lv_aload_n hx hb d_R_shX_81 rfl (lv_at hl 1 rfl) ?_
          refine va_get (D := D) (ci := 1) (v := .long rb) (C := R_Reducer) (T := F_Reducer) (N := 7) hx hb htg i_Reducer hown hK hP 0 rfl rfl 1 (by decide) (htg _ tm_57) (fun _ h9 => h9) rfl d_R_shX_82 ?_
          refine lv_aload_n hx hb d_R_shX_85 rfl (lv_at hl 1 rfl) ?_
          refine va_get (D := D) (ci := 1) (v := .long rc) (C := R_Reducer) (T := F_Reducer) (N := 7) hx hb htg i_Reducer hown hK hP 0 rfl rfl 2 (by decide) (htg _ tm_58) (fun _ h9 => h9) rfl d_R_shX_86 ?_
          refine lv_ladd hx hb d_R_shX_89 ?_
          refine lv_iload_n hx hb d_R_shX_90 rfl (lv_at hl 0 rfl) ?_
          refine lv_i2l hx hb d_R_shX_91 rfl ?_
          refine lv_aload_n hx hb d_R_shX_92 rfl (lv_at hl 1 rfl) ?_
          refine va_get (D := D) (ci := 1) (v := .long rx) (C := R_Reducer) (T := F_Reducer) (N := 7) hx hb htg i_Reducer hown hK hP 0 rfl rfl 3 (by decide) (htg _ tm_59) (fun _ h9 => h9) rfl d_R_shX_93 ?_
          refine lv_lmul hx hb d_R_shX_96 ?_
          refine lv_lsub hx hb d_R_shX_97 ?_
          refine va_put (D := D) (ci := 1) (v := .long ((rb + rc) - (((-1 : Int32).toInt64) * rx))) (ty := .long) (C := R_Reducer) (T := F_Reducer) (N := 7) hx hb htg i_Reducer t_Reducer t_Reducer_ok n_Reducer hown hK hP hD hS 0 rfl rfl 2 (by decide) (htg _ tm_58) (fun _ h9 => h9) rfl (by decide +kernel) rfl rfl (Nat.le_of_ble_eq_true rfl) d_R_shX_98 (fun H locs hP hD hS => ?_)
          have hP : va_P D classes ([(h0, .inr (1, [.long ra, .long rb, .long ((rb + rc) - (((-1 : Int32).toInt64) * rx)), .long rx, .long ry, .long rz, .int rs]))] ++ wt) H := hP
          have hD : va_D A ([(h0, .inr (1, [.long ra, .long rb, .long ((rb + rc) - (((-1 : Int32).toInt64) * rx)), .long rx, .long ry, .long rz, .int rs]))] ++ wt) := hD
          refine lv_aload_n hx hb d_R_shX_101 rfl (lv_at hl 1 rfl) ?_
          refine lv_aload_n hx hb d_R_shX_102 rfl (lv_at hl 1 rfl) ?_
          refine va_get (D := D) (ci := 1) (v := .long ry) (C := R_Reducer) (T := F_Reducer) (N := 7) hx hb htg i_Reducer hown hK hP 0 rfl rfl 4 (by decide) (htg _ tm_60) (fun _ h9 => h9) rfl d_R_shX_103 ?_
          refine lv_iload_n hx hb d_R_shX_106 rfl (lv_at hl 0 rfl) ?_
          refine lv_i2l hx hb d_R_shX_107 rfl ?_
          refine lv_aload_n hx hb d_R_shX_108 rfl (lv_at hl 1 rfl) ?_
          refine va_get (D := D) (ci := 1) (v := .long rz) (C := R_Reducer) (T := F_Reducer) (N := 7) hx hb htg i_Reducer hown hK hP 0 rfl rfl 5 (by decide) (htg _ tm_61) (fun _ h9 => h9) rfl d_R_shX_109 ?_
          refine lv_lmul hx hb d_R_shX_112 ?_
          refine lv_lsub hx hb d_R_shX_113 ?_
          refine va_put (D := D) (ci := 1) (v := .long (ry - (((-1 : Int32).toInt64) * rz))) (ty := .long) (C := R_Reducer) (T := F_Reducer) (N := 7) hx hb htg i_Reducer t_Reducer t_Reducer_ok n_Reducer hown hK hP hD hS 0 rfl rfl 4 (by decide) (htg _ tm_60) (fun _ h9 => h9) rfl (by decide +kernel) rfl rfl (Nat.le_of_ble_eq_true rfl) d_R_shX_114 (fun H locs hP hD hS => ?_)
          have hP : va_P D classes ([(h0, .inr (1, [.long ra, .long rb, .long ((rb + rc) - (((-1 : Int32).toInt64) * rx)), .long rx, .long (ry - (((-1 : Int32).toInt64) * rz)), .long rz, .int rs]))] ++ wt) H := hP
          have hD : va_D A ([(h0, .inr (1, [.long ra, .long rb, .long ((rb + rc) - (((-1 : Int32).toInt64) * rx)), .long rx, .long (ry - (((-1 : Int32).toInt64) * rz)), .long rz, .int rs]))] ++ wt) := hD
          refine lv_aload_n hx hb d_R_shX_117 rfl (lv_at hl 1 rfl) ?_
          refine lv_aload_n hx hb d_R_shX_118 rfl (lv_at hl 1 rfl) ?_
          refine va_get (D := D) (ci := 1) (v := .long rx) (C := R_Reducer) (T := F_Reducer) (N := 7) hx hb htg i_Reducer hown hK hP 0 rfl rfl 3 (by decide) (htg _ tm_59) (fun _ h9 => h9) rfl d_R_shX_119 ?_
          refine lv_iconst (v := (2 : Int32)) hx hb d_R_shX_122 (by decide) ?_
          refine lv_iload_n hx hb d_R_shX_123 rfl (lv_at hl 0 rfl) ?_
          refine lv_imul hx hb d_R_shX_124 ?_
          refine lv_i2l hx hb d_R_shX_125 rfl ?_
          refine lv_aload_n hx hb d_R_shX_126 rfl (lv_at hl 1 rfl) ?_
          refine va_get (D := D) (ci := 1) (v := .long rb) (C := R_Reducer) (T := F_Reducer) (N := 7) hx hb htg i_Reducer hown hK hP 0 rfl rfl 1 (by decide) (htg _ tm_57) (fun _ h9 => h9) rfl d_R_shX_127 ?_
          refine lv_lmul hx hb d_R_shX_130 ?_
          refine lv_lsub hx hb d_R_shX_131 ?_
          refine va_put (D := D) (ci := 1) (v := .long (rx - ((((2 : Int32) * (-1 : Int32)).toInt64) * rb))) (ty := .long) (C := R_Reducer) (T := F_Reducer) (N := 7) hx hb htg i_Reducer t_Reducer t_Reducer_ok n_Reducer hown hK hP hD hS 0 rfl rfl 3 (by decide) (htg _ tm_59) (fun _ h9 => h9) rfl (by decide +kernel) rfl rfl (Nat.le_of_ble_eq_true rfl) d_R_shX_132 (fun H locs hP hD hS => ?_)
          have hP : va_P D classes ([(h0, .inr (1, [.long ra, .long rb, .long ((rb + rc) - (((-1 : Int32).toInt64) * rx)), .long (rx - ((((2 : Int32) * (-1 : Int32)).toInt64) * rb)), .long (ry - (((-1 : Int32).toInt64) * rz)), .long rz, .int rs]))] ++ wt) H := hP
          have hD : va_D A ([(h0, .inr (1, [.long ra, .long rb, .long ((rb + rc) - (((-1 : Int32).toInt64) * rx)), .long (rx - ((((2 : Int32) * (-1 : Int32)).toInt64) * rb)), .long (ry - (((-1 : Int32).toInt64) * rz)), .long rz, .int rs]))] ++ wt) := hD
          refine lv_iconst (v := (1 : Int32)) hx hb d_R_shX_135 (by decide) ?_
          exact W.zret (v := (1 : Int32)) (ty := .boolean) hx hb hr rfl (fun t ht hW => ⟨⟨(1 : Int32), (ra, rb, (rb + rc) - (((-1 : Int32).toInt64) * rx), rx - ((((2 : Int32) * (-1 : Int32)).toInt64) * rb), ry - (((-1 : Int32).toInt64) * rz), rz, rs), rfl, h, by rw [ht]; exact hP, hD⟩, hS.F ht⟩) hS.2.2 d_R_shX_136
        · rw [if_neg c_8] at h
          refine lv_iconst (v := (1 : Int32)) hx hb d_R_shX_74 (by decide) ?_
          refine lv_goto (tgt := 79) hx hb d_R_shX_75 (by decide) ?_
          refine lv_istore_n (lv' := [(1, .int (1 : Int32)), (0, .ref h0)]) hx hb d_R_shX_79 rfl hl (by decide) rfl (fun ls hl => ?_)
          refine lv_aload_n hx hb d_R_shX_80 rfl (lv_at hl 1 rfl) ?_
          refine lv_aload_n hx hb d_R_shX_81 rfl (lv_at hl 1 rfl) ?_
          refine va_get (D := D) (ci := 1) (v := .long rb) (C := R_Reducer) (T := F_Reducer) (N := 7) hx hb htg i_Reducer hown hK hP 0 rfl rfl 1 (by decide) (htg _ tm_57) (fun _ h9 => h9) rfl d_R_shX_82 ?_
          refine lv_aload_n hx hb d_R_shX_85 rfl (lv_at hl 1 rfl) ?_
          refine va_get (D := D) (ci := 1) (v := .long rc) (C := R_Reducer) (T := F_Reducer) (N := 7) hx hb htg i_Reducer hown hK hP 0 rfl rfl 2 (by decide) (htg _ tm_58) (fun _ h9 => h9) rfl d_R_shX_86 ?_
          refine lv_ladd hx hb d_R_shX_89 ?_
          refine lv_iload_n hx hb d_R_shX_90 rfl (lv_at hl 0 rfl) ?_
          refine lv_i2l hx hb d_R_shX_91 rfl ?_
          refine lv_aload_n hx hb d_R_shX_92 rfl (lv_at hl 1 rfl) ?_
          refine va_get (D := D) (ci := 1) (v := .long rx) (C := R_Reducer) (T := F_Reducer) (N := 7) hx hb htg i_Reducer hown hK hP 0 rfl rfl 3 (by decide) (htg _ tm_59) (fun _ h9 => h9) rfl d_R_shX_93 ?_
          refine lv_lmul hx hb d_R_shX_96 ?_
          refine lv_lsub hx hb d_R_shX_97 ?_
          refine va_put (D := D) (ci := 1) (v := .long ((rb + rc) - (((1 : Int32).toInt64) * rx))) (ty := .long) (C := R_Reducer) (T := F_Reducer) (N := 7) hx hb htg i_Reducer t_Reducer t_Reducer_ok n_Reducer hown hK hP hD hS 0 rfl rfl 2 (by decide) (htg _ tm_58) (fun _ h9 => h9) rfl (by decide +kernel) rfl rfl (Nat.le_of_ble_eq_true rfl) d_R_shX_98 (fun H locs hP hD hS => ?_)
          have hP : va_P D classes ([(h0, .inr (1, [.long ra, .long rb, .long ((rb + rc) - (((1 : Int32).toInt64) * rx)), .long rx, .long ry, .long rz, .int rs]))] ++ wt) H := hP
          have hD : va_D A ([(h0, .inr (1, [.long ra, .long rb, .long ((rb + rc) - (((1 : Int32).toInt64) * rx)), .long rx, .long ry, .long rz, .int rs]))] ++ wt) := hD
          refine lv_aload_n hx hb d_R_shX_101 rfl (lv_at hl 1 rfl) ?_
          refine lv_aload_n hx hb d_R_shX_102 rfl (lv_at hl 1 rfl) ?_
          refine va_get (D := D) (ci := 1) (v := .long ry) (C := R_Reducer) (T := F_Reducer) (N := 7) hx hb htg i_Reducer hown hK hP 0 rfl rfl 4 (by decide) (htg _ tm_60) (fun _ h9 => h9) rfl d_R_shX_103 ?_
          refine lv_iload_n hx hb d_R_shX_106 rfl (lv_at hl 0 rfl) ?_
          refine lv_i2l hx hb d_R_shX_107 rfl ?_
          refine lv_aload_n hx hb d_R_shX_108 rfl (lv_at hl 1 rfl) ?_
          refine va_get (D := D) (ci := 1) (v := .long rz) (C := R_Reducer) (T := F_Reducer) (N := 7) hx hb htg i_Reducer hown hK hP 0 rfl rfl 5 (by decide) (htg _ tm_61) (fun _ h9 => h9) rfl d_R_shX_109 ?_
          refine lv_lmul hx hb d_R_shX_112 ?_
          refine lv_lsub hx hb d_R_shX_113 ?_
          refine va_put (D := D) (ci := 1) (v := .long (ry - (((1 : Int32).toInt64) * rz))) (ty := .long) (C := R_Reducer) (T := F_Reducer) (N := 7) hx hb htg i_Reducer t_Reducer t_Reducer_ok n_Reducer hown hK hP hD hS 0 rfl rfl 4 (by decide) (htg _ tm_60) (fun _ h9 => h9) rfl (by decide +kernel) rfl rfl (Nat.le_of_ble_eq_true rfl) d_R_shX_114 (fun H locs hP hD hS => ?_)
          have hP : va_P D classes ([(h0, .inr (1, [.long ra, .long rb, .long ((rb + rc) - (((1 : Int32).toInt64) * rx)), .long rx, .long (ry - (((1 : Int32).toInt64) * rz)), .long rz, .int rs]))] ++ wt) H := hP
          have hD : va_D A ([(h0, .inr (1, [.long ra, .long rb, .long ((rb + rc) - (((1 : Int32).toInt64) * rx)), .long rx, .long (ry - (((1 : Int32).toInt64) * rz)), .long rz, .int rs]))] ++ wt) := hD
          refine lv_aload_n hx hb d_R_shX_117 rfl (lv_at hl 1 rfl) ?_
          refine lv_aload_n hx hb d_R_shX_118 rfl (lv_at hl 1 rfl) ?_
          refine va_get (D := D) (ci := 1) (v := .long rx) (C := R_Reducer) (T := F_Reducer) (N := 7) hx hb htg i_Reducer hown hK hP 0 rfl rfl 3 (by decide) (htg _ tm_59) (fun _ h9 => h9) rfl d_R_shX_119 ?_
          refine lv_iconst (v := (2 : Int32)) hx hb d_R_shX_122 (by decide) ?_
          refine lv_iload_n hx hb d_R_shX_123 rfl (lv_at hl 0 rfl) ?_
          refine lv_imul hx hb d_R_shX_124 ?_
          refine lv_i2l hx hb d_R_shX_125 rfl ?_
          refine lv_aload_n hx hb d_R_shX_126 rfl (lv_at hl 1 rfl) ?_
          refine va_get (D := D) (ci := 1) (v := .long rb) (C := R_Reducer) (T := F_Reducer) (N := 7) hx hb htg i_Reducer hown hK hP 0 rfl rfl 1 (by decide) (htg _ tm_57) (fun _ h9 => h9) rfl d_R_shX_127 ?_
          refine lv_lmul hx hb d_R_shX_130 ?_
          refine lv_lsub hx hb d_R_shX_131 ?_
          refine va_put (D := D) (ci := 1) (v := .long (rx - ((((2 : Int32) * (1 : Int32)).toInt64) * rb))) (ty := .long) (C := R_Reducer) (T := F_Reducer) (N := 7) hx hb htg i_Reducer t_Reducer t_Reducer_ok n_Reducer hown hK hP hD hS 0 rfl rfl 3 (by decide) (htg _ tm_59) (fun _ h9 => h9) rfl (by decide +kernel) rfl rfl (Nat.le_of_ble_eq_true rfl) d_R_shX_132 (fun H locs hP hD hS => ?_)
          have hP : va_P D classes ([(h0, .inr (1, [.long ra, .long rb, .long ((rb + rc) - (((1 : Int32).toInt64) * rx)), .long (rx - ((((2 : Int32) * (1 : Int32)).toInt64) * rb)), .long (ry - (((1 : Int32).toInt64) * rz)), .long rz, .int rs]))] ++ wt) H := hP
          have hD : va_D A ([(h0, .inr (1, [.long ra, .long rb, .long ((rb + rc) - (((1 : Int32).toInt64) * rx)), .long (rx - ((((2 : Int32) * (1 : Int32)).toInt64) * rb)), .long (ry - (((1 : Int32).toInt64) * rz)), .long rz, .int rs]))] ++ wt) := hD
          refine lv_iconst (v := (1 : Int32)) hx hb d_R_shX_135 (by decide) ?_
          exact W.zret (v := (1 : Int32)) (ty := .boolean) hx hb hr rfl (fun t ht hW => ⟨⟨(1 : Int32), (ra, rb, (rb + rc) - (((1 : Int32).toInt64) * rx), rx - ((((2 : Int32) * (1 : Int32)).toInt64) * rb), ry - (((1 : Int32).toInt64) * rz), rz, rs), rfl, h, by rw [ht]; exact hP, hD⟩, hS.F ht⟩) hS.2.2 d_R_shX_136
      · rw [if_neg c_7] at h
        refine lv_aload_n hx hb d_R_shX_43 rfl (lv_at hl 0 rfl) ?_
        refine va_get (D := D) (ci := 1) (v := .long rx) (C := R_Reducer) (T := F_Reducer) (N := 7) hx hb htg i_Reducer hown hK hP 0 rfl rfl 3 (by decide) (htg _ tm_59) (fun _ h9 => h9) rfl d_R_shX_44 ?_
        refine lv_aload_n hx hb d_R_shX_47 rfl (lv_at hl 0 rfl) ?_
        refine va_get (D := D) (ci := 1) (v := .long rb) (C := R_Reducer) (T := F_Reducer) (N := 7) hx hb htg i_Reducer hown hK hP 0 rfl rfl 1 (by decide) (htg _ tm_57) (fun _ h9 => h9) rfl d_R_shX_48 ?_
        refine lv_lneg hx hb d_R_shX_51 ?_
        refine W.lcmp hx hb d_R_shX_52 ?_
        refine lv_if_ne (tgt := 137) hx hb d_R_shX_53 (by decide) (fun c_9 => ?_) (fun c_9 => ?_)
        · rw [if_neg c_9] at h
          refine lv_iconst (v := (0 : Int32)) hx hb d_R_shX_137 (by decide) ?_
          exact W.zret (v := (0 : Int32)) (ty := .boolean) hx hb hr rfl (fun t ht hW => ⟨⟨(0 : Int32), (ra, rb, rc, rx, ry, rz, rs), rfl, h, by rw [ht]; exact hP, hD⟩, hS.F ht⟩) hS.2.2 d_R_shX_138
        · rw [if_pos c_9] at h
          refine lv_aload_n hx hb d_R_shX_56 rfl (lv_at hl 0 rfl) ?_
          refine va_get (D := D) (ci := 1) (v := .long rz) (C := R_Reducer) (T := F_Reducer) (N := 7) hx hb htg i_Reducer hown hK hP 0 rfl rfl 5 (by decide) (htg _ tm_61) (fun _ h9 => h9) rfl d_R_shX_57 ?_
          refine lv_lconst (v := (0 : Int64)) hx hb d_R_shX_60 (by decide) ?_
          refine W.lcmp hx hb d_R_shX_61 ?_
          refine lv_if_ge (tgt := 137) hx hb d_R_shX_62 (by decide) (fun c_10 => ?_) (fun c_10 => ?_)
          · rw [if_pos c_10] at h
            refine lv_iconst (v := (0 : Int32)) hx hb d_R_shX_137 (by decide) ?_
            exact W.zret (v := (0 : Int32)) (ty := .boolean) hx hb hr rfl (fun t ht hW => ⟨⟨(0 : Int32), (ra, rb, rc, rx, ry, rz, rs), rfl, h, by rw [ht]; exact hP, hD⟩, hS.F ht⟩) hS.2.2 d_R_shX_138
          · rw [if_neg c_10] at h
            refine lv_aload_n hx hb d_R_shX_65 rfl (lv_at hl 0 rfl) ?_
            refine va_get (D := D) (ci := 1) (v := .long rx) (C := R_Reducer) (T := F_Reducer) (N := 7) hx hb htg i_Reducer hown hK hP 0 rfl rfl 3 (by decide) (htg _ tm_59) (fun _ h9 => h9) rfl d_R_shX_66 ?_
            refine lv_lconst (v := (0 : Int64)) hx hb d_R_shX_69 (by decide) ?_
            refine W.lcmp hx hb d_R_shX_70 ?_
            refine lv_if_le (tgt := 78) hx hb d_R_shX_71 (by decide) (fun c_11 => ?_) (fun c_11 => ?_)
            · rw [if_pos c_11] at h
              refine lv_iconst (v := (-1 : Int32)) hx hb d_R_shX_78 (by decide) ?_
              refine lv_istore_n (lv' := [(1, .int (-1 : Int32)), (0, .ref h0)]) hx hb d_R_shX_79 rfl hl (by decide) rfl (fun ls hl => ?_)
              refine lv_aload_n hx hb d_R_shX_80 rfl (lv_at hl 1 rfl) ?_
              refine lv_aload_n hx hb d_R_shX_81 rfl (lv_at hl 1 rfl) ?_
              refine va_get (D := D) (ci := 1) (v := .long rb) (C := R_Reducer) (T := F_Reducer) (N := 7) hx hb htg i_Reducer hown hK hP 0 rfl rfl 1 (by decide) (htg _ tm_57) (fun _ h9 => h9) rfl d_R_shX_82 ?_
              refine lv_aload_n hx hb d_R_shX_85 rfl (lv_at hl 1 rfl) ?_
              refine va_get (D := D) (ci := 1) (v := .long rc) (C := R_Reducer) (T := F_Reducer) (N := 7) hx hb htg i_Reducer hown hK hP 0 rfl rfl 2 (by decide) (htg _ tm_58) (fun _ h9 => h9) rfl d_R_shX_86 ?_
              refine lv_ladd hx hb d_R_shX_89 ?_
              refine lv_iload_n hx hb d_R_shX_90 rfl (lv_at hl 0 rfl) ?_
              refine lv_i2l hx hb d_R_shX_91 rfl ?_
              refine lv_aload_n hx hb d_R_shX_92 rfl (lv_at hl 1 rfl) ?_
              refine va_get (D := D) (ci := 1) (v := .long rx) (C := R_Reducer) (T := F_Reducer) (N := 7) hx hb htg i_Reducer hown hK hP 0 rfl rfl 3 (by decide) (htg _ tm_59) (fun _ h9 => h9) rfl d_R_shX_93 ?_
              refine lv_lmul hx hb d_R_shX_96 ?_
              refine lv_lsub hx hb d_R_shX_97 ?_
              refine va_put (D := D) (ci := 1) (v := .long ((rb + rc) - (((-1 : Int32).toInt64) * rx))) (ty := .long) (C := R_Reducer) (T := F_Reducer) (N := 7) hx hb htg i_Reducer t_Reducer t_Reducer_ok n_Reducer hown hK hP hD hS 0 rfl rfl 2 (by decide) (htg _ tm_58) (fun _ h9 => h9) rfl (by decide +kernel) rfl rfl (Nat.le_of_ble_eq_true rfl) d_R_shX_98 (fun H locs hP hD hS => ?_)
              have hP : va_P D classes ([(h0, .inr (1, [.long ra, .long rb, .long ((rb + rc) - (((-1 : Int32).toInt64) * rx)), .long rx, .long ry, .long rz, .int rs]))] ++ wt) H := hP
              have hD : va_D A ([(h0, .inr (1, [.long ra, .long rb, .long ((rb + rc) - (((-1 : Int32).toInt64) * rx)), .long rx, .long ry, .long rz, .int rs]))] ++ wt) := hD
              refine lv_aload_n hx hb d_R_shX_101 rfl (lv_at hl 1 rfl) ?_
              refine lv_aload_n hx hb d_R_shX_102 rfl (lv_at hl 1 rfl) ?_
              refine va_get (D := D) (ci := 1) (v := .long ry) (C := R_Reducer) (T := F_Reducer) (N := 7) hx hb htg i_Reducer hown hK hP 0 rfl rfl 4 (by decide) (htg _ tm_60) (fun _ h9 => h9) rfl d_R_shX_103 ?_
              refine lv_iload_n hx hb d_R_shX_106 rfl (lv_at hl 0 rfl) ?_
              refine lv_i2l hx hb d_R_shX_107 rfl ?_
              refine lv_aload_n hx hb d_R_shX_108 rfl (lv_at hl 1 rfl) ?_
              refine va_get (D := D) (ci := 1) (v := .long rz) (C := R_Reducer) (T := F_Reducer) (N := 7) hx hb htg i_Reducer hown hK hP 0 rfl rfl 5 (by decide) (htg _ tm_61) (fun _ h9 => h9) rfl d_R_shX_109 ?_
              refine lv_lmul hx hb d_R_shX_112 ?_
              refine lv_lsub hx hb d_R_shX_113 ?_
              refine va_put (D := D) (ci := 1) (v := .long (ry - (((-1 : Int32).toInt64) * rz))) (ty := .long) (C := R_Reducer) (T := F_Reducer) (N := 7) hx hb htg i_Reducer t_Reducer t_Reducer_ok n_Reducer hown hK hP hD hS 0 rfl rfl 4 (by decide) (htg _ tm_60) (fun _ h9 => h9) rfl (by decide +kernel) rfl rfl (Nat.le_of_ble_eq_true rfl) d_R_shX_114 (fun H locs hP hD hS => ?_)
              have hP : va_P D classes ([(h0, .inr (1, [.long ra, .long rb, .long ((rb + rc) - (((-1 : Int32).toInt64) * rx)), .long rx, .long (ry - (((-1 : Int32).toInt64) * rz)), .long rz, .int rs]))] ++ wt) H := hP
              have hD : va_D A ([(h0, .inr (1, [.long ra, .long rb, .long ((rb + rc) - (((-1 : Int32).toInt64) * rx)), .long rx, .long (ry - (((-1 : Int32).toInt64) * rz)), .long rz, .int rs]))] ++ wt) := hD
              refine lv_aload_n hx hb d_R_shX_117 rfl (lv_at hl 1 rfl) ?_
              refine lv_aload_n hx hb d_R_shX_118 rfl (lv_at hl 1 rfl) ?_
              refine va_get (D := D) (ci := 1) (v := .long rx) (C := R_Reducer) (T := F_Reducer) (N := 7) hx hb htg i_Reducer hown hK hP 0 rfl rfl 3 (by decide) (htg _ tm_59) (fun _ h9 => h9) rfl d_R_shX_119 ?_
              refine lv_iconst (v := (2 : Int32)) hx hb d_R_shX_122 (by decide) ?_
              refine lv_iload_n hx hb d_R_shX_123 rfl (lv_at hl 0 rfl) ?_
              refine lv_imul hx hb d_R_shX_124 ?_
              refine lv_i2l hx hb d_R_shX_125 rfl ?_
              refine lv_aload_n hx hb d_R_shX_126 rfl (lv_at hl 1 rfl) ?_
              refine va_get (D := D) (ci := 1) (v := .long rb) (C := R_Reducer) (T := F_Reducer) (N := 7) hx hb htg i_Reducer hown hK hP 0 rfl rfl 1 (by decide) (htg _ tm_57) (fun _ h9 => h9) rfl d_R_shX_127 ?_
              refine lv_lmul hx hb d_R_shX_130 ?_
              refine lv_lsub hx hb d_R_shX_131 ?_
              refine va_put (D := D) (ci := 1) (v := .long (rx - ((((2 : Int32) * (-1 : Int32)).toInt64) * rb))) (ty := .long) (C := R_Reducer) (T := F_Reducer) (N := 7) hx hb htg i_Reducer t_Reducer t_Reducer_ok n_Reducer hown hK hP hD hS 0 rfl rfl 3 (by decide) (htg _ tm_59) (fun _ h9 => h9) rfl (by decide +kernel) rfl rfl (Nat.le_of_ble_eq_true rfl) d_R_shX_132 (fun H locs hP hD hS => ?_)
              have hP : va_P D classes ([(h0, .inr (1, [.long ra, .long rb, .long ((rb + rc) - (((-1 : Int32).toInt64) * rx)), .long (rx - ((((2 : Int32) * (-1 : Int32)).toInt64) * rb)), .long (ry - (((-1 : Int32).toInt64) * rz)), .long rz, .int rs]))] ++ wt) H := hP
              have hD : va_D A ([(h0, .inr (1, [.long ra, .long rb, .long ((rb + rc) - (((-1 : Int32).toInt64) * rx)), .long (rx - ((((2 : Int32) * (-1 : Int32)).toInt64) * rb)), .long (ry - (((-1 : Int32).toInt64) * rz)), .long rz, .int rs]))] ++ wt) := hD
              refine lv_iconst (v := (1 : Int32)) hx hb d_R_shX_135 (by decide) ?_
              exact W.zret (v := (1 : Int32)) (ty := .boolean) hx hb hr rfl (fun t ht hW => ⟨⟨(1 : Int32), (ra, rb, (rb + rc) - (((-1 : Int32).toInt64) * rx), rx - ((((2 : Int32) * (-1 : Int32)).toInt64) * rb), ry - (((-1 : Int32).toInt64) * rz), rz, rs), rfl, h, by rw [ht]; exact hP, hD⟩, hS.F ht⟩) hS.2.2 d_R_shX_136
            · rw [if_neg c_11] at h
              refine lv_iconst (v := (1 : Int32)) hx hb d_R_shX_74 (by decide) ?_
              refine lv_goto (tgt := 79) hx hb d_R_shX_75 (by decide) ?_
              refine lv_istore_n (lv' := [(1, .int (1 : Int32)), (0, .ref h0)]) hx hb d_R_shX_79 rfl hl (by decide) rfl (fun ls hl => ?_)
              refine lv_aload_n hx hb d_R_shX_80 rfl (lv_at hl 1 rfl) ?_
              refine lv_aload_n hx hb d_R_shX_81 rfl (lv_at hl 1 rfl) ?_
              refine va_get (D := D) (ci := 1) (v := .long rb) (C := R_Reducer) (T := F_Reducer) (N := 7) hx hb htg i_Reducer hown hK hP 0 rfl rfl 1 (by decide) (htg _ tm_57) (fun _ h9 => h9) rfl d_R_shX_82 ?_
              refine lv_aload_n hx hb d_R_shX_85 rfl (lv_at hl 1 rfl) ?_
              refine va_get (D := D) (ci := 1) (v := .long rc) (C := R_Reducer) (T := F_Reducer) (N := 7) hx hb htg i_Reducer hown hK hP 0 rfl rfl 2 (by decide) (htg _ tm_58) (fun _ h9 => h9) rfl d_R_shX_86 ?_
              refine lv_ladd hx hb d_R_shX_89 ?_
              refine lv_iload_n hx hb d_R_shX_90 rfl (lv_at hl 0 rfl) ?_
              refine lv_i2l hx hb d_R_shX_91 rfl ?_
              refine lv_aload_n hx hb d_R_shX_92 rfl (lv_at hl 1 rfl) ?_
              refine va_get (D := D) (ci := 1) (v := .long rx) (C := R_Reducer) (T := F_Reducer) (N := 7) hx hb htg i_Reducer hown hK hP 0 rfl rfl 3 (by decide) (htg _ tm_59) (fun _ h9 => h9) rfl d_R_shX_93 ?_
              refine lv_lmul hx hb d_R_shX_96 ?_
              refine lv_lsub hx hb d_R_shX_97 ?_
              refine va_put (D := D) (ci := 1) (v := .long ((rb + rc) - (((1 : Int32).toInt64) * rx))) (ty := .long) (C := R_Reducer) (T := F_Reducer) (N := 7) hx hb htg i_Reducer t_Reducer t_Reducer_ok n_Reducer hown hK hP hD hS 0 rfl rfl 2 (by decide) (htg _ tm_58) (fun _ h9 => h9) rfl (by decide +kernel) rfl rfl (Nat.le_of_ble_eq_true rfl) d_R_shX_98 (fun H locs hP hD hS => ?_)
              have hP : va_P D classes ([(h0, .inr (1, [.long ra, .long rb, .long ((rb + rc) - (((1 : Int32).toInt64) * rx)), .long rx, .long ry, .long rz, .int rs]))] ++ wt) H := hP
              have hD : va_D A ([(h0, .inr (1, [.long ra, .long rb, .long ((rb + rc) - (((1 : Int32).toInt64) * rx)), .long rx, .long ry, .long rz, .int rs]))] ++ wt) := hD
              refine lv_aload_n hx hb d_R_shX_101 rfl (lv_at hl 1 rfl) ?_
              refine lv_aload_n hx hb d_R_shX_102 rfl (lv_at hl 1 rfl) ?_
              refine va_get (D := D) (ci := 1) (v := .long ry) (C := R_Reducer) (T := F_Reducer) (N := 7) hx hb htg i_Reducer hown hK hP 0 rfl rfl 4 (by decide) (htg _ tm_60) (fun _ h9 => h9) rfl d_R_shX_103 ?_
              refine lv_iload_n hx hb d_R_shX_106 rfl (lv_at hl 0 rfl) ?_
              refine lv_i2l hx hb d_R_shX_107 rfl ?_
              refine lv_aload_n hx hb d_R_shX_108 rfl (lv_at hl 1 rfl) ?_
              refine va_get (D := D) (ci := 1) (v := .long rz) (C := R_Reducer) (T := F_Reducer) (N := 7) hx hb htg i_Reducer hown hK hP 0 rfl rfl 5 (by decide) (htg _ tm_61) (fun _ h9 => h9) rfl d_R_shX_109 ?_
              refine lv_lmul hx hb d_R_shX_112 ?_
              refine lv_lsub hx hb d_R_shX_113 ?_
              refine va_put (D := D) (ci := 1) (v := .long (ry - (((1 : Int32).toInt64) * rz))) (ty := .long) (C := R_Reducer) (T := F_Reducer) (N := 7) hx hb htg i_Reducer t_Reducer t_Reducer_ok n_Reducer hown hK hP hD hS 0 rfl rfl 4 (by decide) (htg _ tm_60) (fun _ h9 => h9) rfl (by decide +kernel) rfl rfl (Nat.le_of_ble_eq_true rfl) d_R_shX_114 (fun H locs hP hD hS => ?_)
              have hP : va_P D classes ([(h0, .inr (1, [.long ra, .long rb, .long ((rb + rc) - (((1 : Int32).toInt64) * rx)), .long rx, .long (ry - (((1 : Int32).toInt64) * rz)), .long rz, .int rs]))] ++ wt) H := hP
              have hD : va_D A ([(h0, .inr (1, [.long ra, .long rb, .long ((rb + rc) - (((1 : Int32).toInt64) * rx)), .long rx, .long (ry - (((1 : Int32).toInt64) * rz)), .long rz, .int rs]))] ++ wt) := hD
              refine lv_aload_n hx hb d_R_shX_117 rfl (lv_at hl 1 rfl) ?_
              refine lv_aload_n hx hb d_R_shX_118 rfl (lv_at hl 1 rfl) ?_
              refine va_get (D := D) (ci := 1) (v := .long rx) (C := R_Reducer) (T := F_Reducer) (N := 7) hx hb htg i_Reducer hown hK hP 0 rfl rfl 3 (by decide) (htg _ tm_59) (fun _ h9 => h9) rfl d_R_shX_119 ?_
              refine lv_iconst (v := (2 : Int32)) hx hb d_R_shX_122 (by decide) ?_
              refine lv_iload_n hx hb d_R_shX_123 rfl (lv_at hl 0 rfl) ?_
              refine lv_imul hx hb d_R_shX_124 ?_
              refine lv_i2l hx hb d_R_shX_125 rfl ?_
              refine lv_aload_n hx hb d_R_shX_126 rfl (lv_at hl 1 rfl) ?_
              refine va_get (D := D) (ci := 1) (v := .long rb) (C := R_Reducer) (T := F_Reducer) (N := 7) hx hb htg i_Reducer hown hK hP 0 rfl rfl 1 (by decide) (htg _ tm_57) (fun _ h9 => h9) rfl d_R_shX_127 ?_
              refine lv_lmul hx hb d_R_shX_130 ?_
              refine lv_lsub hx hb d_R_shX_131 ?_
              refine va_put (D := D) (ci := 1) (v := .long (rx - ((((2 : Int32) * (1 : Int32)).toInt64) * rb))) (ty := .long) (C := R_Reducer) (T := F_Reducer) (N := 7) hx hb htg i_Reducer t_Reducer t_Reducer_ok n_Reducer hown hK hP hD hS 0 rfl rfl 3 (by decide) (htg _ tm_59) (fun _ h9 => h9) rfl (by decide +kernel) rfl rfl (Nat.le_of_ble_eq_true rfl) d_R_shX_132 (fun H locs hP hD hS => ?_)
              have hP : va_P D classes ([(h0, .inr (1, [.long ra, .long rb, .long ((rb + rc) - (((1 : Int32).toInt64) * rx)), .long (rx - ((((2 : Int32) * (1 : Int32)).toInt64) * rb)), .long (ry - (((1 : Int32).toInt64) * rz)), .long rz, .int rs]))] ++ wt) H := hP
              have hD : va_D A ([(h0, .inr (1, [.long ra, .long rb, .long ((rb + rc) - (((1 : Int32).toInt64) * rx)), .long (rx - ((((2 : Int32) * (1 : Int32)).toInt64) * rb)), .long (ry - (((1 : Int32).toInt64) * rz)), .long rz, .int rs]))] ++ wt) := hD
              refine lv_iconst (v := (1 : Int32)) hx hb d_R_shX_135 (by decide) ?_
              exact W.zret (v := (1 : Int32)) (ty := .boolean) hx hb hr rfl (fun t ht hW => ⟨⟨(1 : Int32), (ra, rb, (rb + rc) - (((1 : Int32).toInt64) * rx), rx - ((((2 : Int32) * (1 : Int32)).toInt64) * rb), ry - (((1 : Int32).toInt64) * rz), rz, rs), rfl, h, by rw [ht]; exact hP, hD⟩, hS.F ht⟩) hS.2.2 d_R_shX_136
-- CellBench$Reducer shearByY ()Z
def f_R_shY (ra : Int64) (rb : Int64) (rc : Int64) (rx : Int64) (ry : Int64) (rz : Int64) (rs : Int32) : Int32 × Int64 × Int64 × Int64 × Int64 × Int64 × Int64 × Int32 :=
    if 0 < (lg_cmp (if 0 < ry then ry else -ry) ra) then (if (lg_cmp ry (0 : Int64)) ≤ 0 then ((1 : Int32), ra, rb, (ra + rc) - (((-1 : Int32).toInt64) * ry), rx - (((-1 : Int32).toInt64) * rz), ry - ((((2 : Int32) * (-1 : Int32)).toInt64) * ra), rz, rs) else ((1 : Int32), ra, rb, (ra + rc) - (((1 : Int32).toInt64) * ry), rx - (((1 : Int32).toInt64) * rz), ry - ((((2 : Int32) * (1 : Int32)).toInt64) * ra), rz, rs)) else (if (lg_cmp ry ra) = 0 then (if (lg_cmp ((2 : Int64) * rx) rz) < 0 then (if (lg_cmp ry (0 : Int64)) ≤ 0 then ((1 : Int32), ra, rb, (ra + rc) - (((-1 : Int32).toInt64) * ry), rx - (((-1 : Int32).toInt64) * rz), ry - ((((2 : Int32) * (-1 : Int32)).toInt64) * ra), rz, rs) else ((1 : Int32), ra, rb, (ra + rc) - (((1 : Int32).toInt64) * ry), rx - (((1 : Int32).toInt64) * rz), ry - ((((2 : Int32) * (1 : Int32)).toInt64) * ra), rz, rs)) else (if (lg_cmp ry (-ra)) = 0 then (if 0 ≤ (lg_cmp rz (0 : Int64)) then ((0 : Int32), ra, rb, rc, rx, ry, rz, rs) else (if (lg_cmp ry (0 : Int64)) ≤ 0 then ((1 : Int32), ra, rb, (ra + rc) - (((-1 : Int32).toInt64) * ry), rx - (((-1 : Int32).toInt64) * rz), ry - ((((2 : Int32) * (-1 : Int32)).toInt64) * ra), rz, rs) else ((1 : Int32), ra, rb, (ra + rc) - (((1 : Int32).toInt64) * ry), rx - (((1 : Int32).toInt64) * rz), ry - ((((2 : Int32) * (1 : Int32)).toInt64) * ra), rz, rs))) else ((0 : Int32), ra, rb, rc, rx, ry, rz, rs))) else (if (lg_cmp ry (-ra)) = 0 then (if 0 ≤ (lg_cmp rz (0 : Int64)) then ((0 : Int32), ra, rb, rc, rx, ry, rz, rs) else (if (lg_cmp ry (0 : Int64)) ≤ 0 then ((1 : Int32), ra, rb, (ra + rc) - (((-1 : Int32).toInt64) * ry), rx - (((-1 : Int32).toInt64) * rz), ry - ((((2 : Int32) * (-1 : Int32)).toInt64) * ra), rz, rs) else ((1 : Int32), ra, rb, (ra + rc) - (((1 : Int32).toInt64) * ry), rx - (((1 : Int32).toInt64) * rz), ry - ((((2 : Int32) * (1 : Int32)).toInt64) * ra), rz, rs))) else ((0 : Int32), ra, rb, rc, rx, ry, rz, rs)))
def w_R_shY : List Cond := .code y_R_shY b_R_shY 2 (some .boolean) :: GW
abbrev rm_R_shY : Room := { frames := 1, cells := 0, slots := 0, locals := 13 }
theorem g_R_shY : GoodIn GW w_R_shY := gi tm_209
set_option maxHeartbeats 4000000 in
set_option maxRecDepth 100000 in
theorem c_R_shY (l : Launch) (D : va_G) (ct : CT) (A : Nat → Prop) (wt : va_W)  (h0 : Nat) (ra : Int64) (rb : Int64) (rc : Int64) (rx : Int64) (ry : Int64) (rz : Int64) (rs : Int32)   (r0 : Int32 × Int64 × Int64 × Int64 × Int64 × Int64 × Int64 × Int32) (h : f_R_shY ra rb rc rx ry rz rs = r0) : Met l y_R_shY w_R_shY rm_R_shY (va_Pc [.ref h0] (PreM D ct A ([(h0, .inr (1, [.long ra, .long rb, .long rc, .long rx, .long ry, .long rz, .int rs]))] ++ wt))) (va_Qi (fun r u => (r, u) = r0) (fun (u : Int64 × Int64 × Int64 × Int64 × Int64 × Int64 × Int32) t => match u with | (ra', rb', rc', rx', ry', rz', rs') => va_P D classes ([(h0, .inr (1, [.long ra', .long rb', .long rc', .long rx', .long ry', .long rz', .int rs']))] ++ wt) t.heap ∧ va_D A ([(h0, .inr (1, [.long ra', .long rb', .long rc', .long rx', .long ry', .long rz', .int rs']))] ++ wt)) A) 0 0 A := by
  refine Met.ofW (cc := b_R_shY) (maxL := 2) (ret := (some .boolean)) (by decide) rfl ?_
  intro p e s m args below meth c s₁ B hml hv
  obtain ⟨rfl, hA, hP, hD, hKK⟩ := hv
  have hx := B.exec
  have hb := B.bytes
  have hr := B.returns
  have htg := ht_tl (atoms_spec (ws := w_R_shY) B.pre)
  have hown : s.vm.findClass R_Reducer = some m.cls := findClass_of_methodNamed B.named
  have hlocks := B.notSynchronized
  have hK := hKK.1
  have hN := hKK.2.1
  have hO := hKK.2.2
  have hS : va_S A s.heap s.heap [] := va_S.rf
  have hl := lv_entry ([.ref h0]) (n := 2) (Nat.le_of_ble_eq_true rfl)
  rw [lg_entry_eq]
  generalize (lg_sl ([.ref h0]) ++ List.replicate (2 - (lg_sl ([.ref h0])).length) Slot.unset).toArray = ls at hl ⊢
  have hl : lv_has ls 2 [(0, .ref h0)] := hl
  unfold f_R_shY at h
  refine lv_aload_n hx hb d_R_shY_0 rfl (lv_at hl 0 rfl) ?_
  refine va_get (D := D) (ci := 1) (v := .long ry) (C := R_Reducer) (T := F_Reducer) (N := 7) hx hb htg i_Reducer hown hK hP 0 rfl rfl 4 (by decide) (htg _ tm_60) (fun _ h9 => h9) rfl d_R_shY_1 ?_
  refine va_mabs_long hx hb (by rw [hml]; exact hl.1.symm) hown (htg _ tm_188) (htg _ tm_189) (htg _ tm_36) (htg _ tm_190) (Nat.le_of_ble_eq_true rfl) (Nat.le_of_ble_eq_true rfl) (Nat.le_of_ble_eq_true rfl) (Nat.le_of_ble_eq_true rfl) d_R_shY_4 ?_
  refine lv_aload_n hx hb d_R_shY_7 rfl (lv_at hl 0 rfl) ?_
  refine va_get (D := D) (ci := 1) (v := .long ra) (C := R_Reducer) (T := F_Reducer) (N := 7) hx hb htg i_Reducer hown hK hP 0 rfl rfl 0 (by decide) (htg _ tm_56) (fun _ h9 => h9) rfl d_R_shY_8 ?_
  refine W.lcmp hx hb d_R_shY_11 ?_
  refine lv_if_gt (tgt := 65) hx hb d_R_shY_12 (by decide) (fun c_1 => ?_) (fun c_1 => ?_)
  · rw [if_pos c_1] at h
    refine lv_aload_n hx hb d_R_shY_65 rfl (lv_at hl 0 rfl) ?_
    refine va_get (D := D) (ci := 1) (v := .long ry) (C := R_Reducer) (T := F_Reducer) (N := 7) hx hb htg i_Reducer hown hK hP 0 rfl rfl 4 (by decide) (htg _ tm_60) (fun _ h9 => h9) rfl d_R_shY_66 ?_
    refine lv_lconst (v := (0 : Int64)) hx hb d_R_shY_69 (by decide) ?_
    refine W.lcmp hx hb d_R_shY_70 ?_
    refine lv_if_le (tgt := 78) hx hb d_R_shY_71 (by decide) (fun c_2 => ?_) (fun c_2 => ?_)
    · rw [if_pos c_2] at h
      refine lv_iconst (v := (-1 : Int32)) hx hb d_R_shY_78 (by decide) ?_
      refine lv_istore_n (lv' := [(1, .int (-1 : Int32)), (0, .ref h0)]) hx hb d_R_shY_79 rfl hl (by decide) rfl (fun ls hl => ?_)
      refine lv_aload_n hx hb d_R_shY_80 rfl (lv_at hl 1 rfl) ?_
      refine lv_aload_n hx hb d_R_shY_81 rfl (lv_at hl 1 rfl) ?_
      refine va_get (D := D) (ci := 1) (v := .long ra) (C := R_Reducer) (T := F_Reducer) (N := 7) hx hb htg i_Reducer hown hK hP 0 rfl rfl 0 (by decide) (htg _ tm_56) (fun _ h9 => h9) rfl d_R_shY_82 ?_
      refine lv_aload_n hx hb d_R_shY_85 rfl (lv_at hl 1 rfl) ?_
      refine va_get (D := D) (ci := 1) (v := .long rc) (C := R_Reducer) (T := F_Reducer) (N := 7) hx hb htg i_Reducer hown hK hP 0 rfl rfl 2 (by decide) (htg _ tm_58) (fun _ h9 => h9) rfl d_R_shY_86 ?_
      refine lv_ladd hx hb d_R_shY_89 ?_
      refine lv_iload_n hx hb d_R_shY_90 rfl (lv_at hl 0 rfl) ?_
      refine lv_i2l hx hb d_R_shY_91 rfl ?_
      refine lv_aload_n hx hb d_R_shY_92 rfl (lv_at hl 1 rfl) ?_
      refine va_get (D := D) (ci := 1) (v := .long ry) (C := R_Reducer) (T := F_Reducer) (N := 7) hx hb htg i_Reducer hown hK hP 0 rfl rfl 4 (by decide) (htg _ tm_60) (fun _ h9 => h9) rfl d_R_shY_93 ?_
      refine lv_lmul hx hb d_R_shY_96 ?_
      refine lv_lsub hx hb d_R_shY_97 ?_
      refine va_put (D := D) (ci := 1) (v := .long ((ra + rc) - (((-1 : Int32).toInt64) * ry))) (ty := .long) (C := R_Reducer) (T := F_Reducer) (N := 7) hx hb htg i_Reducer t_Reducer t_Reducer_ok n_Reducer hown hK hP hD hS 0 rfl rfl 2 (by decide) (htg _ tm_58) (fun _ h9 => h9) rfl (by decide +kernel) rfl rfl (Nat.le_of_ble_eq_true rfl) d_R_shY_98 (fun H locs hP hD hS => ?_)
      have hP : va_P D classes ([(h0, .inr (1, [.long ra, .long rb, .long ((ra + rc) - (((-1 : Int32).toInt64) * ry)), .long rx, .long ry, .long rz, .int rs]))] ++ wt) H := hP
      have hD : va_D A ([(h0, .inr (1, [.long ra, .long rb, .long ((ra + rc) - (((-1 : Int32).toInt64) * ry)), .long rx, .long ry, .long rz, .int rs]))] ++ wt) := hD
      refine lv_aload_n hx hb d_R_shY_101 rfl (lv_at hl 1 rfl) ?_
      refine lv_aload_n hx hb d_R_shY_102 rfl (lv_at hl 1 rfl) ?_
      refine va_get (D := D) (ci := 1) (v := .long rx) (C := R_Reducer) (T := F_Reducer) (N := 7) hx hb htg i_Reducer hown hK hP 0 rfl rfl 3 (by decide) (htg _ tm_59) (fun _ h9 => h9) rfl d_R_shY_103 ?_
      refine lv_iload_n hx hb d_R_shY_106 rfl (lv_at hl 0 rfl) ?_
      refine lv_i2l hx hb d_R_shY_107 rfl ?_
      refine lv_aload_n hx hb d_R_shY_108 rfl (lv_at hl 1 rfl) ?_
      refine va_get (D := D) (ci := 1) (v := .long rz) (C := R_Reducer) (T := F_Reducer) (N := 7) hx hb htg i_Reducer hown hK hP 0 rfl rfl 5 (by decide) (htg _ tm_61) (fun _ h9 => h9) rfl d_R_shY_109 ?_
      refine lv_lmul hx hb d_R_shY_112 ?_
      refine lv_lsub hx hb d_R_shY_113 ?_
      refine va_put (D := D) (ci := 1) (v := .long (rx - (((-1 : Int32).toInt64) * rz))) (ty := .long) (C := R_Reducer) (T := F_Reducer) (N := 7) hx hb htg i_Reducer t_Reducer t_Reducer_ok n_Reducer hown hK hP hD hS 0 rfl rfl 3 (by decide) (htg _ tm_59) (fun _ h9 => h9) rfl (by decide +kernel) rfl rfl (Nat.le_of_ble_eq_true rfl) d_R_shY_114 (fun H locs hP hD hS => ?_)
      have hP : va_P D classes ([(h0, .inr (1, [.long ra, .long rb, .long ((ra + rc) - (((-1 : Int32).toInt64) * ry)), .long (rx - (((-1 : Int32).toInt64) * rz)), .long ry, .long rz, .int rs]))] ++ wt) H := hP
      have hD : va_D A ([(h0, .inr (1, [.long ra, .long rb, .long ((ra + rc) - (((-1 : Int32).toInt64) * ry)), .long (rx - (((-1 : Int32).toInt64) * rz)), .long ry, .long rz, .int rs]))] ++ wt) := hD
      refine lv_aload_n hx hb d_R_shY_117 rfl (lv_at hl 1 rfl) ?_
      refine lv_aload_n hx hb d_R_shY_118 rfl (lv_at hl 1 rfl) ?_
      refine va_get (D := D) (ci := 1) (v := .long ry) (C := R_Reducer) (T := F_Reducer) (N := 7) hx hb htg i_Reducer hown hK hP 0 rfl rfl 4 (by decide) (htg _ tm_60) (fun _ h9 => h9) rfl d_R_shY_119 ?_
      refine lv_iconst (v := (2 : Int32)) hx hb d_R_shY_122 (by decide) ?_
      refine lv_iload_n hx hb d_R_shY_123 rfl (lv_at hl 0 rfl) ?_
      refine lv_imul hx hb d_R_shY_124 ?_
      refine lv_i2l hx hb d_R_shY_125 rfl ?_
      refine lv_aload_n hx hb d_R_shY_126 rfl (lv_at hl 1 rfl) ?_
      refine va_get (D := D) (ci := 1) (v := .long ra) (C := R_Reducer) (T := F_Reducer) (N := 7) hx hb htg i_Reducer hown hK hP 0 rfl rfl 0 (by decide) (htg _ tm_56) (fun _ h9 => h9) rfl d_R_shY_127 ?_
      refine lv_lmul hx hb d_R_shY_130 ?_
      refine lv_lsub hx hb d_R_shY_131 ?_
      refine va_put (D := D) (ci := 1) (v := .long (ry - ((((2 : Int32) * (-1 : Int32)).toInt64) * ra))) (ty := .long) (C := R_Reducer) (T := F_Reducer) (N := 7) hx hb htg i_Reducer t_Reducer t_Reducer_ok n_Reducer hown hK hP hD hS 0 rfl rfl 4 (by decide) (htg _ tm_60) (fun _ h9 => h9) rfl (by decide +kernel) rfl rfl (Nat.le_of_ble_eq_true rfl) d_R_shY_132 (fun H locs hP hD hS => ?_)
      have hP : va_P D classes ([(h0, .inr (1, [.long ra, .long rb, .long ((ra + rc) - (((-1 : Int32).toInt64) * ry)), .long (rx - (((-1 : Int32).toInt64) * rz)), .long (ry - ((((2 : Int32) * (-1 : Int32)).toInt64) * ra)), .long rz, .int rs]))] ++ wt) H := hP
      have hD : va_D A ([(h0, .inr (1, [.long ra, .long rb, .long ((ra + rc) - (((-1 : Int32).toInt64) * ry)), .long (rx - (((-1 : Int32).toInt64) * rz)), .long (ry - ((((2 : Int32) * (-1 : Int32)).toInt64) * ra)), .long rz, .int rs]))] ++ wt) := hD
      refine lv_iconst (v := (1 : Int32)) hx hb d_R_shY_135 (by decide) ?_
      exact W.zret (v := (1 : Int32)) (ty := .boolean) hx hb hr rfl (fun t ht hW => ⟨⟨(1 : Int32), (ra, rb, (ra + rc) - (((-1 : Int32).toInt64) * ry), rx - (((-1 : Int32).toInt64) * rz), ry - ((((2 : Int32) * (-1 : Int32)).toInt64) * ra), rz, rs), rfl, h, by rw [ht]; exact hP, hD⟩, hS.F ht⟩) hS.2.2 d_R_shY_136
    · rw [if_neg c_2] at h
      refine lv_iconst (v := (1 : Int32)) hx hb d_R_shY_74 (by decide) ?_
      refine lv_goto (tgt := 79) hx hb d_R_shY_75 (by decide) ?_
      refine lv_istore_n (lv' := [(1, .int (1 : Int32)), (0, .ref h0)]) hx hb d_R_shY_79 rfl hl (by decide) rfl (fun ls hl => ?_)
      refine lv_aload_n hx hb d_R_shY_80 rfl (lv_at hl 1 rfl) ?_
      refine lv_aload_n hx hb d_R_shY_81 rfl (lv_at hl 1 rfl) ?_
      refine va_get (D := D) (ci := 1) (v := .long ra) (C := R_Reducer) (T := F_Reducer) (N := 7) hx hb htg i_Reducer hown hK hP 0 rfl rfl 0 (by decide) (htg _ tm_56) (fun _ h9 => h9) rfl d_R_shY_82 ?_
      refine lv_aload_n hx hb d_R_shY_85 rfl (lv_at hl 1 rfl) ?_
      refine va_get (D := D) (ci := 1) (v := .long rc) (C := R_Reducer) (T := F_Reducer) (N := 7) hx hb htg i_Reducer hown hK hP 0 rfl rfl 2 (by decide) (htg _ tm_58) (fun _ h9 => h9) rfl d_R_shY_86 ?_
      refine lv_ladd hx hb d_R_shY_89 ?_
      refine lv_iload_n hx hb d_R_shY_90 rfl (lv_at hl 0 rfl) ?_
      refine lv_i2l hx hb d_R_shY_91 rfl ?_
      refine lv_aload_n hx hb d_R_shY_92 rfl (lv_at hl 1 rfl) ?_
      refine va_get (D := D) (ci := 1) (v := .long ry) (C := R_Reducer) (T := F_Reducer) (N := 7) hx hb htg i_Reducer hown hK hP 0 rfl rfl 4 (by decide) (htg _ tm_60) (fun _ h9 => h9) rfl d_R_shY_93 ?_
      refine lv_lmul hx hb d_R_shY_96 ?_
      refine lv_lsub hx hb d_R_shY_97 ?_
      refine va_put (D := D) (ci := 1) (v := .long ((ra + rc) - (((1 : Int32).toInt64) * ry))) (ty := .long) (C := R_Reducer) (T := F_Reducer) (N := 7) hx hb htg i_Reducer t_Reducer t_Reducer_ok n_Reducer hown hK hP hD hS 0 rfl rfl 2 (by decide) (htg _ tm_58) (fun _ h9 => h9) rfl (by decide +kernel) rfl rfl (Nat.le_of_ble_eq_true rfl) d_R_shY_98 (fun H locs hP hD hS => ?_)
      have hP : va_P D classes ([(h0, .inr (1, [.long ra, .long rb, .long ((ra + rc) - (((1 : Int32).toInt64) * ry)), .long rx, .long ry, .long rz, .int rs]))] ++ wt) H := hP
      have hD : va_D A ([(h0, .inr (1, [.long ra, .long rb, .long ((ra + rc) - (((1 : Int32).toInt64) * ry)), .long rx, .long ry, .long rz, .int rs]))] ++ wt) := hD
      refine lv_aload_n hx hb d_R_shY_101 rfl (lv_at hl 1 rfl) ?_
      refine lv_aload_n hx hb d_R_shY_102 rfl (lv_at hl 1 rfl) ?_
      refine va_get (D := D) (ci := 1) (v := .long rx) (C := R_Reducer) (T := F_Reducer) (N := 7) hx hb htg i_Reducer hown hK hP 0 rfl rfl 3 (by decide) (htg _ tm_59) (fun _ h9 => h9) rfl d_R_shY_103 ?_
      refine lv_iload_n hx hb d_R_shY_106 rfl (lv_at hl 0 rfl) ?_
      refine lv_i2l hx hb d_R_shY_107 rfl ?_
      refine lv_aload_n hx hb d_R_shY_108 rfl (lv_at hl 1 rfl) ?_
      refine va_get (D := D) (ci := 1) (v := .long rz) (C := R_Reducer) (T := F_Reducer) (N := 7) hx hb htg i_Reducer hown hK hP 0 rfl rfl 5 (by decide) (htg _ tm_61) (fun _ h9 => h9) rfl d_R_shY_109 ?_
      refine lv_lmul hx hb d_R_shY_112 ?_
      refine lv_lsub hx hb d_R_shY_113 ?_
      refine va_put (D := D) (ci := 1) (v := .long (rx - (((1 : Int32).toInt64) * rz))) (ty := .long) (C := R_Reducer) (T := F_Reducer) (N := 7) hx hb htg i_Reducer t_Reducer t_Reducer_ok n_Reducer hown hK hP hD hS 0 rfl rfl 3 (by decide) (htg _ tm_59) (fun _ h9 => h9) rfl (by decide +kernel) rfl rfl (Nat.le_of_ble_eq_true rfl) d_R_shY_114 (fun H locs hP hD hS => ?_)
      have hP : va_P D classes ([(h0, .inr (1, [.long ra, .long rb, .long ((ra + rc) - (((1 : Int32).toInt64) * ry)), .long (rx - (((1 : Int32).toInt64) * rz)), .long ry, .long rz, .int rs]))] ++ wt) H := hP
      have hD : va_D A ([(h0, .inr (1, [.long ra, .long rb, .long ((ra + rc) - (((1 : Int32).toInt64) * ry)), .long (rx - (((1 : Int32).toInt64) * rz)), .long ry, .long rz, .int rs]))] ++ wt) := hD
      refine lv_aload_n hx hb d_R_shY_117 rfl (lv_at hl 1 rfl) ?_
      refine lv_aload_n hx hb d_R_shY_118 rfl (lv_at hl 1 rfl) ?_
      refine va_get (D := D) (ci := 1) (v := .long ry) (C := R_Reducer) (T := F_Reducer) (N := 7) hx hb htg i_Reducer hown hK hP 0 rfl rfl 4 (by decide) (htg _ tm_60) (fun _ h9 => h9) rfl d_R_shY_119 ?_
      refine lv_iconst (v := (2 : Int32)) hx hb d_R_shY_122 (by decide) ?_
      refine lv_iload_n hx hb d_R_shY_123 rfl (lv_at hl 0 rfl) ?_
      refine lv_imul hx hb d_R_shY_124 ?_
      refine lv_i2l hx hb d_R_shY_125 rfl ?_
      refine lv_aload_n hx hb d_R_shY_126 rfl (lv_at hl 1 rfl) ?_
      refine va_get (D := D) (ci := 1) (v := .long ra) (C := R_Reducer) (T := F_Reducer) (N := 7) hx hb htg i_Reducer hown hK hP 0 rfl rfl 0 (by decide) (htg _ tm_56) (fun _ h9 => h9) rfl d_R_shY_127 ?_
      refine lv_lmul hx hb d_R_shY_130 ?_
      refine lv_lsub hx hb d_R_shY_131 ?_
      refine va_put (D := D) (ci := 1) (v := .long (ry - ((((2 : Int32) * (1 : Int32)).toInt64) * ra))) (ty := .long) (C := R_Reducer) (T := F_Reducer) (N := 7) hx hb htg i_Reducer t_Reducer t_Reducer_ok n_Reducer hown hK hP hD hS 0 rfl rfl 4 (by decide) (htg _ tm_60) (fun _ h9 => h9) rfl (by decide +kernel) rfl rfl (Nat.le_of_ble_eq_true rfl) d_R_shY_132 (fun H locs hP hD hS => ?_)
      have hP : va_P D classes ([(h0, .inr (1, [.long ra, .long rb, .long ((ra + rc) - (((1 : Int32).toInt64) * ry)), .long (rx - (((1 : Int32).toInt64) * rz)), .long (ry - ((((2 : Int32) * (1 : Int32)).toInt64) * ra)), .long rz, .int rs]))] ++ wt) H := hP
      have hD : va_D A ([(h0, .inr (1, [.long ra, .long rb, .long ((ra + rc) - (((1 : Int32).toInt64) * ry)), .long (rx - (((1 : Int32).toInt64) * rz)), .long (ry - ((((2 : Int32) * (1 : Int32)).toInt64) * ra)), .long rz, .int rs]))] ++ wt) := hD
      refine lv_iconst (v := (1 : Int32)) hx hb d_R_shY_135 (by decide) ?_
      exact W.zret (v := (1 : Int32)) (ty := .boolean) hx hb hr rfl (fun t ht hW => ⟨⟨(1 : Int32), (ra, rb, (ra + rc) - (((1 : Int32).toInt64) * ry), rx - (((1 : Int32).toInt64) * rz), ry - ((((2 : Int32) * (1 : Int32)).toInt64) * ra), rz, rs), rfl, h, by rw [ht]; exact hP, hD⟩, hS.F ht⟩) hS.2.2 d_R_shY_136
  · rw [if_neg c_1] at h
    refine lv_aload_n hx hb d_R_shY_15 rfl (lv_at hl 0 rfl) ?_
    refine va_get (D := D) (ci := 1) (v := .long ry) (C := R_Reducer) (T := F_Reducer) (N := 7) hx hb htg i_Reducer hown hK hP 0 rfl rfl 4 (by decide) (htg _ tm_60) (fun _ h9 => h9) rfl d_R_shY_16 ?_
    refine lv_aload_n hx hb d_R_shY_19 rfl (lv_at hl 0 rfl) ?_
    refine va_get (D := D) (ci := 1) (v := .long ra) (C := R_Reducer) (T := F_Reducer) (N := 7) hx hb htg i_Reducer hown hK hP 0 rfl rfl 0 (by decide) (htg _ tm_56) (fun _ h9 => h9) rfl d_R_shY_20 ?_
    refine W.lcmp hx hb d_R_shY_23 ?_
    refine lv_if_ne (tgt := 43) hx hb d_R_shY_24 (by decide) (fun c_3 => ?_) (fun c_3 => ?_)
    · rw [if_neg c_3] at h
      refine lv_aload_n hx hb d_R_shY_43 rfl (lv_at hl 0 rfl) ?_
      refine va_get (D := D) (ci := 1) (v := .long ry) (C := R_Reducer) (T := F_Reducer) (N := 7) hx hb htg i_Reducer hown hK hP 0 rfl rfl 4 (by decide) (htg _ tm_60) (fun _ h9 => h9) rfl d_R_shY_44 ?_
      refine lv_aload_n hx hb d_R_shY_47 rfl (lv_at hl 0 rfl) ?_
      refine va_get (D := D) (ci := 1) (v := .long ra) (C := R_Reducer) (T := F_Reducer) (N := 7) hx hb htg i_Reducer hown hK hP 0 rfl rfl 0 (by decide) (htg _ tm_56) (fun _ h9 => h9) rfl d_R_shY_48 ?_
      refine lv_lneg hx hb d_R_shY_51 ?_
      refine W.lcmp hx hb d_R_shY_52 ?_
      refine lv_if_ne (tgt := 137) hx hb d_R_shY_53 (by decide) (fun c_4 => ?_) (fun c_4 => ?_)
      · rw [if_neg c_4] at h
        refine lv_iconst (v := (0 : Int32)) hx hb d_R_shY_137 (by decide) ?_
        exact W.zret (v := (0 : Int32)) (ty := .boolean) hx hb hr rfl (fun t ht hW => ⟨⟨(0 : Int32), (ra, rb, rc, rx, ry, rz, rs), rfl, h, by rw [ht]; exact hP, hD⟩, hS.F ht⟩) hS.2.2 d_R_shY_138
      · rw [if_pos c_4] at h
        refine lv_aload_n hx hb d_R_shY_56 rfl (lv_at hl 0 rfl) ?_
        refine va_get (D := D) (ci := 1) (v := .long rz) (C := R_Reducer) (T := F_Reducer) (N := 7) hx hb htg i_Reducer hown hK hP 0 rfl rfl 5 (by decide) (htg _ tm_61) (fun _ h9 => h9) rfl d_R_shY_57 ?_
        refine lv_lconst (v := (0 : Int64)) hx hb d_R_shY_60 (by decide) ?_
        refine W.lcmp hx hb d_R_shY_61 ?_
        refine lv_if_ge (tgt := 137) hx hb d_R_shY_62 (by decide) (fun c_5 => ?_) (fun c_5 => ?_)
        · rw [if_pos c_5] at h
          refine lv_iconst (v := (0 : Int32)) hx hb d_R_shY_137 (by decide) ?_
          exact W.zret (v := (0 : Int32)) (ty := .boolean) hx hb hr rfl (fun t ht hW => ⟨⟨(0 : Int32), (ra, rb, rc, rx, ry, rz, rs), rfl, h, by rw [ht]; exact hP, hD⟩, hS.F ht⟩) hS.2.2 d_R_shY_138
        · rw [if_neg c_5] at h
          refine lv_aload_n hx hb d_R_shY_65 rfl (lv_at hl 0 rfl) ?_
          refine va_get (D := D) (ci := 1) (v := .long ry) (C := R_Reducer) (T := F_Reducer) (N := 7) hx hb htg i_Reducer hown hK hP 0 rfl rfl 4 (by decide) (htg _ tm_60) (fun _ h9 => h9) rfl d_R_shY_66 ?_
          refine lv_lconst (v := (0 : Int64)) hx hb d_R_shY_69 (by decide) ?_
          refine W.lcmp hx hb d_R_shY_70 ?_
          refine lv_if_le (tgt := 78) hx hb d_R_shY_71 (by decide) (fun c_6 => ?_) (fun c_6 => ?_)
          · rw [if_pos c_6] at h
            refine lv_iconst (v := (-1 : Int32)) hx hb d_R_shY_78 (by decide) ?_
            refine lv_istore_n (lv' := [(1, .int (-1 : Int32)), (0, .ref h0)]) hx hb d_R_shY_79 rfl hl (by decide) rfl (fun ls hl => ?_)
            refine lv_aload_n hx hb d_R_shY_80 rfl (lv_at hl 1 rfl) ?_
            refine lv_aload_n hx hb d_R_shY_81 rfl (lv_at hl 1 rfl) ?_
            refine va_get (D := D) (ci := 1) (v := .long ra) (C := R_Reducer) (T := F_Reducer) (N := 7) hx hb htg i_Reducer hown hK hP 0 rfl rfl 0 (by decide) (htg _ tm_56) (fun _ h9 => h9) rfl d_R_shY_82 ?_
            refine lv_aload_n hx hb d_R_shY_85 rfl (lv_at hl 1 rfl) ?_
            refine va_get (D := D) (ci := 1) (v := .long rc) (C := R_Reducer) (T := F_Reducer) (N := 7) hx hb htg i_Reducer hown hK hP 0 rfl rfl 2 (by decide) (htg _ tm_58) (fun _ h9 => h9) rfl d_R_shY_86 ?_
            refine lv_ladd hx hb d_R_shY_89 ?_
            refine lv_iload_n hx hb d_R_shY_90 rfl (lv_at hl 0 rfl) ?_
            refine lv_i2l hx hb d_R_shY_91 rfl ?_
            refine lv_aload_n hx hb d_R_shY_92 rfl (lv_at hl 1 rfl) ?_
            refine va_get (D := D) (ci := 1) (v := .long ry) (C := R_Reducer) (T := F_Reducer) (N := 7) hx hb htg i_Reducer hown hK hP 0 rfl rfl 4 (by decide) (htg _ tm_60) (fun _ h9 => h9) rfl d_R_shY_93 ?_
            refine lv_lmul hx hb d_R_shY_96 ?_
            refine lv_lsub hx hb d_R_shY_97 ?_
            refine va_put (D := D) (ci := 1) (v := .long ((ra + rc) - (((-1 : Int32).toInt64) * ry))) (ty := .long) (C := R_Reducer) (T := F_Reducer) (N := 7) hx hb htg i_Reducer t_Reducer t_Reducer_ok n_Reducer hown hK hP hD hS 0 rfl rfl 2 (by decide) (htg _ tm_58) (fun _ h9 => h9) rfl (by decide +kernel) rfl rfl (Nat.le_of_ble_eq_true rfl) d_R_shY_98 (fun H locs hP hD hS => ?_)
            have hP : va_P D classes ([(h0, .inr (1, [.long ra, .long rb, .long ((ra + rc) - (((-1 : Int32).toInt64) * ry)), .long rx, .long ry, .long rz, .int rs]))] ++ wt) H := hP
            have hD : va_D A ([(h0, .inr (1, [.long ra, .long rb, .long ((ra + rc) - (((-1 : Int32).toInt64) * ry)), .long rx, .long ry, .long rz, .int rs]))] ++ wt) := hD
            refine lv_aload_n hx hb d_R_shY_101 rfl (lv_at hl 1 rfl) ?_
            refine lv_aload_n hx hb d_R_shY_102 rfl (lv_at hl 1 rfl) ?_
            refine va_get (D := D) (ci := 1) (v := .long rx) (C := R_Reducer) (T := F_Reducer) (N := 7) hx hb htg i_Reducer hown hK hP 0 rfl rfl 3 (by decide) (htg _ tm_59) (fun _ h9 => h9) rfl d_R_shY_103 ?_
            refine lv_iload_n hx hb d_R_shY_106 rfl (lv_at hl 0 rfl) ?_
            refine lv_i2l hx hb d_R_shY_107 rfl ?_
            refine lv_aload_n hx hb d_R_shY_108 rfl (lv_at hl 1 rfl) ?_
            refine va_get (D := D) (ci := 1) (v := .long rz) (C := R_Reducer) (T := F_Reducer) (N := 7) hx hb htg i_Reducer hown hK hP 0 rfl rfl 5 (by decide) (htg _ tm_61) (fun _ h9 => h9) rfl d_R_shY_109 ?_
            refine lv_lmul hx hb d_R_shY_112 ?_
            refine lv_lsub hx hb d_R_shY_113 ?_
            refine va_put (D := D) (ci := 1) (v := .long (rx - (((-1 : Int32).toInt64) * rz))) (ty := .long) (C := R_Reducer) (T := F_Reducer) (N := 7) hx hb htg i_Reducer t_Reducer t_Reducer_ok n_Reducer hown hK hP hD hS 0 rfl rfl 3 (by decide) (htg _ tm_59) (fun _ h9 => h9) rfl (by decide +kernel) rfl rfl (Nat.le_of_ble_eq_true rfl) d_R_shY_114 (fun H locs hP hD hS => ?_)
            have hP : va_P D classes ([(h0, .inr (1, [.long ra, .long rb, .long ((ra + rc) - (((-1 : Int32).toInt64) * ry)), .long (rx - (((-1 : Int32).toInt64) * rz)), .long ry, .long rz, .int rs]))] ++ wt) H := hP
            have hD : va_D A ([(h0, .inr (1, [.long ra, .long rb, .long ((ra + rc) - (((-1 : Int32).toInt64) * ry)), .long (rx - (((-1 : Int32).toInt64) * rz)), .long ry, .long rz, .int rs]))] ++ wt) := hD
            refine lv_aload_n hx hb d_R_shY_117 rfl (lv_at hl 1 rfl) ?_
            refine lv_aload_n hx hb d_R_shY_118 rfl (lv_at hl 1 rfl) ?_
            refine va_get (D := D) (ci := 1) (v := .long ry) (C := R_Reducer) (T := F_Reducer) (N := 7) hx hb htg i_Reducer hown hK hP 0 rfl rfl 4 (by decide) (htg _ tm_60) (fun _ h9 => h9) rfl d_R_shY_119 ?_
            refine lv_iconst (v := (2 : Int32)) hx hb d_R_shY_122 (by decide) ?_
            refine lv_iload_n hx hb d_R_shY_123 rfl (lv_at hl 0 rfl) ?_
            refine lv_imul hx hb d_R_shY_124 ?_
            refine lv_i2l hx hb d_R_shY_125 rfl ?_
            refine lv_aload_n hx hb d_R_shY_126 rfl (lv_at hl 1 rfl) ?_
            refine va_get (D := D) (ci := 1) (v := .long ra) (C := R_Reducer) (T := F_Reducer) (N := 7) hx hb htg i_Reducer hown hK hP 0 rfl rfl 0 (by decide) (htg _ tm_56) (fun _ h9 => h9) rfl d_R_shY_127 ?_
            refine lv_lmul hx hb d_R_shY_130 ?_
            refine lv_lsub hx hb d_R_shY_131 ?_
            refine va_put (D := D) (ci := 1) (v := .long (ry - ((((2 : Int32) * (-1 : Int32)).toInt64) * ra))) (ty := .long) (C := R_Reducer) (T := F_Reducer) (N := 7) hx hb htg i_Reducer t_Reducer t_Reducer_ok n_Reducer hown hK hP hD hS 0 rfl rfl 4 (by decide) (htg _ tm_60) (fun _ h9 => h9) rfl (by decide +kernel) rfl rfl (Nat.le_of_ble_eq_true rfl) d_R_shY_132 (fun H locs hP hD hS => ?_)
            have hP : va_P D classes ([(h0, .inr (1, [.long ra, .long rb, .long ((ra + rc) - (((-1 : Int32).toInt64) * ry)), .long (rx - (((-1 : Int32).toInt64) * rz)), .long (ry - ((((2 : Int32) * (-1 : Int32)).toInt64) * ra)), .long rz, .int rs]))] ++ wt) H := hP
            have hD : va_D A ([(h0, .inr (1, [.long ra, .long rb, .long ((ra + rc) - (((-1 : Int32).toInt64) * ry)), .long (rx - (((-1 : Int32).toInt64) * rz)), .long (ry - ((((2 : Int32) * (-1 : Int32)).toInt64) * ra)), .long rz, .int rs]))] ++ wt) := hD
            refine lv_iconst (v := (1 : Int32)) hx hb d_R_shY_135 (by decide) ?_
            exact W.zret (v := (1 : Int32)) (ty := .boolean) hx hb hr rfl (fun t ht hW => ⟨⟨(1 : Int32), (ra, rb, (ra + rc) - (((-1 : Int32).toInt64) * ry), rx - (((-1 : Int32).toInt64) * rz), ry - ((((2 : Int32) * (-1 : Int32)).toInt64) * ra), rz, rs), rfl, h, by rw [ht]; exact hP, hD⟩, hS.F ht⟩) hS.2.2 d_R_shY_136
          · rw [if_neg c_6] at h
            refine lv_iconst (v := (1 : Int32)) hx hb d_R_shY_74 (by decide) ?_
            refine lv_goto (tgt := 79) hx hb d_R_shY_75 (by decide) ?_
            refine lv_istore_n (lv' := [(1, .int (1 : Int32)), (0, .ref h0)]) hx hb d_R_shY_79 rfl hl (by decide) rfl (fun ls hl => ?_)
            refine lv_aload_n hx hb d_R_shY_80 rfl (lv_at hl 1 rfl) ?_
            refine lv_aload_n hx hb d_R_shY_81 rfl (lv_at hl 1 rfl) ?_
            refine va_get (D := D) (ci := 1) (v := .long ra) (C := R_Reducer) (T := F_Reducer) (N := 7) hx hb htg i_Reducer hown hK hP 0 rfl rfl 0 (by decide) (htg _ tm_56) (fun _ h9 => h9) rfl d_R_shY_82 ?_
            refine lv_aload_n hx hb d_R_shY_85 rfl (lv_at hl 1 rfl) ?_
            refine va_get (D := D) (ci := 1) (v := .long rc) (C := R_Reducer) (T := F_Reducer) (N := 7) hx hb htg i_Reducer hown hK hP 0 rfl rfl 2 (by decide) (htg _ tm_58) (fun _ h9 => h9) rfl d_R_shY_86 ?_
            refine lv_ladd hx hb d_R_shY_89 ?_
            refine lv_iload_n hx hb d_R_shY_90 rfl (lv_at hl 0 rfl) ?_
            refine lv_i2l hx hb d_R_shY_91 rfl ?_
            refine lv_aload_n hx hb d_R_shY_92 rfl (lv_at hl 1 rfl) ?_
            refine va_get (D := D) (ci := 1) (v := .long ry) (C := R_Reducer) (T := F_Reducer) (N := 7) hx hb htg i_Reducer hown hK hP 0 rfl rfl 4 (by decide) (htg _ tm_60) (fun _ h9 => h9) rfl d_R_shY_93 ?_
            refine lv_lmul hx hb d_R_shY_96 ?_
            refine lv_lsub hx hb d_R_shY_97 ?_
            refine va_put (D := D) (ci := 1) (v := .long ((ra + rc) - (((1 : Int32).toInt64) * ry))) (ty := .long) (C := R_Reducer) (T := F_Reducer) (N := 7) hx hb htg i_Reducer t_Reducer t_Reducer_ok n_Reducer hown hK hP hD hS 0 rfl rfl 2 (by decide) (htg _ tm_58) (fun _ h9 => h9) rfl (by decide +kernel) rfl rfl (Nat.le_of_ble_eq_true rfl) d_R_shY_98 (fun H locs hP hD hS => ?_)
            have hP : va_P D classes ([(h0, .inr (1, [.long ra, .long rb, .long ((ra + rc) - (((1 : Int32).toInt64) * ry)), .long rx, .long ry, .long rz, .int rs]))] ++ wt) H := hP
            have hD : va_D A ([(h0, .inr (1, [.long ra, .long rb, .long ((ra + rc) - (((1 : Int32).toInt64) * ry)), .long rx, .long ry, .long rz, .int rs]))] ++ wt) := hD
            refine lv_aload_n hx hb d_R_shY_101 rfl (lv_at hl 1 rfl) ?_
            refine lv_aload_n hx hb d_R_shY_102 rfl (lv_at hl 1 rfl) ?_
            refine va_get (D := D) (ci := 1) (v := .long rx) (C := R_Reducer) (T := F_Reducer) (N := 7) hx hb htg i_Reducer hown hK hP 0 rfl rfl 3 (by decide) (htg _ tm_59) (fun _ h9 => h9) rfl d_R_shY_103 ?_
            refine lv_iload_n hx hb d_R_shY_106 rfl (lv_at hl 0 rfl) ?_
            refine lv_i2l hx hb d_R_shY_107 rfl ?_
            refine lv_aload_n hx hb d_R_shY_108 rfl (lv_at hl 1 rfl) ?_
            refine va_get (D := D) (ci := 1) (v := .long rz) (C := R_Reducer) (T := F_Reducer) (N := 7) hx hb htg i_Reducer hown hK hP 0 rfl rfl 5 (by decide) (htg _ tm_61) (fun _ h9 => h9) rfl d_R_shY_109 ?_
            refine lv_lmul hx hb d_R_shY_112 ?_
            refine lv_lsub hx hb d_R_shY_113 ?_
            refine va_put (D := D) (ci := 1) (v := .long (rx - (((1 : Int32).toInt64) * rz))) (ty := .long) (C := R_Reducer) (T := F_Reducer) (N := 7) hx hb htg i_Reducer t_Reducer t_Reducer_ok n_Reducer hown hK hP hD hS 0 rfl rfl 3 (by decide) (htg _ tm_59) (fun _ h9 => h9) rfl (by decide +kernel) rfl rfl (Nat.le_of_ble_eq_true rfl) d_R_shY_114 (fun H locs hP hD hS => ?_)
            have hP : va_P D classes ([(h0, .inr (1, [.long ra, .long rb, .long ((ra + rc) - (((1 : Int32).toInt64) * ry)), .long (rx - (((1 : Int32).toInt64) * rz)), .long ry, .long rz, .int rs]))] ++ wt) H := hP
            have hD : va_D A ([(h0, .inr (1, [.long ra, .long rb, .long ((ra + rc) - (((1 : Int32).toInt64) * ry)), .long (rx - (((1 : Int32).toInt64) * rz)), .long ry, .long rz, .int rs]))] ++ wt) := hD
            refine lv_aload_n hx hb d_R_shY_117 rfl (lv_at hl 1 rfl) ?_
            refine lv_aload_n hx hb d_R_shY_118 rfl (lv_at hl 1 rfl) ?_
            refine va_get (D := D) (ci := 1) (v := .long ry) (C := R_Reducer) (T := F_Reducer) (N := 7) hx hb htg i_Reducer hown hK hP 0 rfl rfl 4 (by decide) (htg _ tm_60) (fun _ h9 => h9) rfl d_R_shY_119 ?_
            refine lv_iconst (v := (2 : Int32)) hx hb d_R_shY_122 (by decide) ?_
            refine lv_iload_n hx hb d_R_shY_123 rfl (lv_at hl 0 rfl) ?_
            refine lv_imul hx hb d_R_shY_124 ?_
            refine lv_i2l hx hb d_R_shY_125 rfl ?_
            refine lv_aload_n hx hb d_R_shY_126 rfl (lv_at hl 1 rfl) ?_
            refine va_get (D := D) (ci := 1) (v := .long ra) (C := R_Reducer) (T := F_Reducer) (N := 7) hx hb htg i_Reducer hown hK hP 0 rfl rfl 0 (by decide) (htg _ tm_56) (fun _ h9 => h9) rfl d_R_shY_127 ?_
            refine lv_lmul hx hb d_R_shY_130 ?_
            refine lv_lsub hx hb d_R_shY_131 ?_
            refine va_put (D := D) (ci := 1) (v := .long (ry - ((((2 : Int32) * (1 : Int32)).toInt64) * ra))) (ty := .long) (C := R_Reducer) (T := F_Reducer) (N := 7) hx hb htg i_Reducer t_Reducer t_Reducer_ok n_Reducer hown hK hP hD hS 0 rfl rfl 4 (by decide) (htg _ tm_60) (fun _ h9 => h9) rfl (by decide +kernel) rfl rfl (Nat.le_of_ble_eq_true rfl) d_R_shY_132 (fun H locs hP hD hS => ?_)
            have hP : va_P D classes ([(h0, .inr (1, [.long ra, .long rb, .long ((ra + rc) - (((1 : Int32).toInt64) * ry)), .long (rx - (((1 : Int32).toInt64) * rz)), .long (ry - ((((2 : Int32) * (1 : Int32)).toInt64) * ra)), .long rz, .int rs]))] ++ wt) H := hP
            have hD : va_D A ([(h0, .inr (1, [.long ra, .long rb, .long ((ra + rc) - (((1 : Int32).toInt64) * ry)), .long (rx - (((1 : Int32).toInt64) * rz)), .long (ry - ((((2 : Int32) * (1 : Int32)).toInt64) * ra)), .long rz, .int rs]))] ++ wt) := hD
            refine lv_iconst (v := (1 : Int32)) hx hb d_R_shY_135 (by decide) ?_
            exact W.zret (v := (1 : Int32)) (ty := .boolean) hx hb hr rfl (fun t ht hW => ⟨⟨(1 : Int32), (ra, rb, (ra + rc) - (((1 : Int32).toInt64) * ry), rx - (((1 : Int32).toInt64) * rz), ry - ((((2 : Int32) * (1 : Int32)).toInt64) * ra), rz, rs), rfl, h, by rw [ht]; exact hP, hD⟩, hS.F ht⟩) hS.2.2 d_R_shY_136
    · rw [if_pos c_3] at h
      refine lv_ldc2 (v := (2 : Int64)) hx hb hown (htg _ tm_178) d_R_shY_27 ?_
      refine lv_aload_n hx hb d_R_shY_30 rfl (lv_at hl 0 rfl) ?_
      refine va_get (D := D) (ci := 1) (v := .long rx) (C := R_Reducer) (T := F_Reducer) (N := 7) hx hb htg i_Reducer hown hK hP 0 rfl rfl 3 (by decide) (htg _ tm_59) (fun _ h9 => h9) rfl d_R_shY_31 ?_
      refine lv_lmul hx hb d_R_shY_34 ?_
      refine lv_aload_n hx hb d_R_shY_35 rfl (lv_at hl 0 rfl) ?_
      refine va_get (D := D) (ci := 1) (v := .long rz) (C := R_Reducer) (T := F_Reducer) (N := 7) hx hb htg i_Reducer hown hK hP 0 rfl rfl 5 (by decide) (htg _ tm_61) (fun _ h9 => h9) rfl d_R_shY_36 ?_
      refine W.lcmp hx hb d_R_shY_39 ?_
      refine lv_if_lt (tgt := 65) hx hb d_R_shY_40 (by decide) (fun c_7 => ?_) (fun c_7 => ?_)
      · rw [if_pos c_7] at h
        refine lv_aload_n hx hb d_R_shY_65 rfl (lv_at hl 0 rfl) ?_
        refine va_get (D := D) (ci := 1) (v := .long ry) (C := R_Reducer) (T := F_Reducer) (N := 7) hx hb htg i_Reducer hown hK hP 0 rfl rfl 4 (by decide) (htg _ tm_60) (fun _ h9 => h9) rfl d_R_shY_66 ?_
        refine lv_lconst (v := (0 : Int64)) hx hb d_R_shY_69 (by decide) ?_
        refine W.lcmp hx hb d_R_shY_70 ?_
        refine lv_if_le (tgt := 78) hx hb d_R_shY_71 (by decide) (fun c_8 => ?_) (fun c_8 => ?_)
        · rw [if_pos c_8] at h
          refine lv_iconst (v := (-1 : Int32)) hx hb d_R_shY_78 (by decide) ?_
          refine lv_istore_n (lv' := [(1, .int (-1 : Int32)), (0, .ref h0)]) hx hb d_R_shY_79 rfl hl (by decide) rfl (fun ls hl => ?_)
          refine lv_aload_n hx hb d_R_shY_80 rfl (lv_at hl 1 rfl) ?_
          refine lv_aload_n hx hb d_R_shY_81 rfl (lv_at hl 1 rfl) ?_
          refine va_get (D := D) (ci := 1) (v := .long ra) (C := R_Reducer) (T := F_Reducer) (N := 7) hx hb htg i_Reducer hown hK hP 0 rfl rfl 0 (by decide) (htg _ tm_56) (fun _ h9 => h9) rfl d_R_shY_82 ?_
          refine lv_aload_n hx hb d_R_shY_85 rfl (lv_at hl 1 rfl) ?_
          refine va_get (D := D) (ci := 1) (v := .long rc) (C := R_Reducer) (T := F_Reducer) (N := 7) hx hb htg i_Reducer hown hK hP 0 rfl rfl 2 (by decide) (htg _ tm_58) (fun _ h9 => h9) rfl d_R_shY_86 ?_
          refine lv_ladd hx hb d_R_shY_89 ?_
          refine lv_iload_n hx hb d_R_shY_90 rfl (lv_at hl 0 rfl) ?_
          refine lv_i2l hx hb d_R_shY_91 rfl ?_
          refine lv_aload_n hx hb d_R_shY_92 rfl (lv_at hl 1 rfl) ?_
          refine va_get (D := D) (ci := 1) (v := .long ry) (C := R_Reducer) (T := F_Reducer) (N := 7) hx hb htg i_Reducer hown hK hP 0 rfl rfl 4 (by decide) (htg _ tm_60) (fun _ h9 => h9) rfl d_R_shY_93 ?_
          refine lv_lmul hx hb d_R_shY_96 ?_
          refine lv_lsub hx hb d_R_shY_97 ?_
          refine va_put (D := D) (ci := 1) (v := .long ((ra + rc) - (((-1 : Int32).toInt64) * ry))) (ty := .long) (C := R_Reducer) (T := F_Reducer) (N := 7) hx hb htg i_Reducer t_Reducer t_Reducer_ok n_Reducer hown hK hP hD hS 0 rfl rfl 2 (by decide) (htg _ tm_58) (fun _ h9 => h9) rfl (by decide +kernel) rfl rfl (Nat.le_of_ble_eq_true rfl) d_R_shY_98 (fun H locs hP hD hS => ?_)
          have hP : va_P D classes ([(h0, .inr (1, [.long ra, .long rb, .long ((ra + rc) - (((-1 : Int32).toInt64) * ry)), .long rx, .long ry, .long rz, .int rs]))] ++ wt) H := hP
          have hD : va_D A ([(h0, .inr (1, [.long ra, .long rb, .long ((ra + rc) - (((-1 : Int32).toInt64) * ry)), .long rx, .long ry, .long rz, .int rs]))] ++ wt) := hD
          refine lv_aload_n hx hb d_R_shY_101 rfl (lv_at hl 1 rfl) ?_
          refine lv_aload_n hx hb d_R_shY_102 rfl (lv_at hl 1 rfl) ?_
          refine va_get (D := D) (ci := 1) (v := .long rx) (C := R_Reducer) (T := F_Reducer) (N := 7) hx hb htg i_Reducer hown hK hP 0 rfl rfl 3 (by decide) (htg _ tm_59) (fun _ h9 => h9) rfl d_R_shY_103 ?_
          refine lv_iload_n hx hb d_R_shY_106 rfl (lv_at hl 0 rfl) ?_
          refine lv_i2l hx hb d_R_shY_107 rfl ?_
          refine lv_aload_n hx hb d_R_shY_108 rfl (lv_at hl 1 rfl) ?_
          refine va_get (D := D) (ci := 1) (v := .long rz) (C := R_Reducer) (T := F_Reducer) (N := 7) hx hb htg i_Reducer hown hK hP 0 rfl rfl 5 (by decide) (htg _ tm_61) (fun _ h9 => h9) rfl d_R_shY_109 ?_
          refine lv_lmul hx hb d_R_shY_112 ?_
          refine lv_lsub hx hb d_R_shY_113 ?_
          refine va_put (D := D) (ci := 1) (v := .long (rx - (((-1 : Int32).toInt64) * rz))) (ty := .long) (C := R_Reducer) (T := F_Reducer) (N := 7) hx hb htg i_Reducer t_Reducer t_Reducer_ok n_Reducer hown hK hP hD hS 0 rfl rfl 3 (by decide) (htg _ tm_59) (fun _ h9 => h9) rfl (by decide +kernel) rfl rfl (Nat.le_of_ble_eq_true rfl) d_R_shY_114 (fun H locs hP hD hS => ?_)
          have hP : va_P D classes ([(h0, .inr (1, [.long ra, .long rb, .long ((ra + rc) - (((-1 : Int32).toInt64) * ry)), .long (rx - (((-1 : Int32).toInt64) * rz)), .long ry, .long rz, .int rs]))] ++ wt) H := hP
          have hD : va_D A ([(h0, .inr (1, [.long ra, .long rb, .long ((ra + rc) - (((-1 : Int32).toInt64) * ry)), .long (rx - (((-1 : Int32).toInt64) * rz)), .long ry, .long rz, .int rs]))] ++ wt) := hD
          refine lv_aload_n hx hb d_R_shY_117 rfl (lv_at hl 1 rfl) ?_
          refine lv_aload_n hx hb d_R_shY_118 rfl (lv_at hl 1 rfl) ?_
          refine va_get (D := D) (ci := 1) (v := .long ry) (C := R_Reducer) (T := F_Reducer) (N := 7) hx hb htg i_Reducer hown hK hP 0 rfl rfl 4 (by decide) (htg _ tm_60) (fun _ h9 => h9) rfl d_R_shY_119 ?_
          refine lv_iconst (v := (2 : Int32)) hx hb d_R_shY_122 (by decide) ?_
          refine lv_iload_n hx hb d_R_shY_123 rfl (lv_at hl 0 rfl) ?_
          refine lv_imul hx hb d_R_shY_124 ?_
          refine lv_i2l hx hb d_R_shY_125 rfl ?_
          refine lv_aload_n hx hb d_R_shY_126 rfl (lv_at hl 1 rfl) ?_
          refine va_get (D := D) (ci := 1) (v := .long ra) (C := R_Reducer) (T := F_Reducer) (N := 7) hx hb htg i_Reducer hown hK hP 0 rfl rfl 0 (by decide) (htg _ tm_56) (fun _ h9 => h9) rfl d_R_shY_127 ?_
          refine lv_lmul hx hb d_R_shY_130 ?_
          refine lv_lsub hx hb d_R_shY_131 ?_
          refine va_put (D := D) (ci := 1) (v := .long (ry - ((((2 : Int32) * (-1 : Int32)).toInt64) * ra))) (ty := .long) (C := R_Reducer) (T := F_Reducer) (N := 7) hx hb htg i_Reducer t_Reducer t_Reducer_ok n_Reducer hown hK hP hD hS 0 rfl rfl 4 (by decide) (htg _ tm_60) (fun _ h9 => h9) rfl (by decide +kernel) rfl rfl (Nat.le_of_ble_eq_true rfl) d_R_shY_132 (fun H locs hP hD hS => ?_)
          have hP : va_P D classes ([(h0, .inr (1, [.long ra, .long rb, .long ((ra + rc) - (((-1 : Int32).toInt64) * ry)), .long (rx - (((-1 : Int32).toInt64) * rz)), .long (ry - ((((2 : Int32) * (-1 : Int32)).toInt64) * ra)), .long rz, .int rs]))] ++ wt) H := hP
          have hD : va_D A ([(h0, .inr (1, [.long ra, .long rb, .long ((ra + rc) - (((-1 : Int32).toInt64) * ry)), .long (rx - (((-1 : Int32).toInt64) * rz)), .long (ry - ((((2 : Int32) * (-1 : Int32)).toInt64) * ra)), .long rz, .int rs]))] ++ wt) := hD
          refine lv_iconst (v := (1 : Int32)) hx hb d_R_shY_135 (by decide) ?_
          exact W.zret (v := (1 : Int32)) (ty := .boolean) hx hb hr rfl (fun t ht hW => ⟨⟨(1 : Int32), (ra, rb, (ra + rc) - (((-1 : Int32).toInt64) * ry), rx - (((-1 : Int32).toInt64) * rz), ry - ((((2 : Int32) * (-1 : Int32)).toInt64) * ra), rz, rs), rfl, h, by rw [ht]; exact hP, hD⟩, hS.F ht⟩) hS.2.2 d_R_shY_136
        · rw [if_neg c_8] at h
          refine lv_iconst (v := (1 : Int32)) hx hb d_R_shY_74 (by decide) ?_
          refine lv_goto (tgt := 79) hx hb d_R_shY_75 (by decide) ?_
          refine lv_istore_n (lv' := [(1, .int (1 : Int32)), (0, .ref h0)]) hx hb d_R_shY_79 rfl hl (by decide) rfl (fun ls hl => ?_)
          refine lv_aload_n hx hb d_R_shY_80 rfl (lv_at hl 1 rfl) ?_
          refine lv_aload_n hx hb d_R_shY_81 rfl (lv_at hl 1 rfl) ?_
          refine va_get (D := D) (ci := 1) (v := .long ra) (C := R_Reducer) (T := F_Reducer) (N := 7) hx hb htg i_Reducer hown hK hP 0 rfl rfl 0 (by decide) (htg _ tm_56) (fun _ h9 => h9) rfl d_R_shY_82 ?_
          refine lv_aload_n hx hb d_R_shY_85 rfl (lv_at hl 1 rfl) ?_
          refine va_get (D := D) (ci := 1) (v := .long rc) (C := R_Reducer) (T := F_Reducer) (N := 7) hx hb htg i_Reducer hown hK hP 0 rfl rfl 2 (by decide) (htg _ tm_58) (fun _ h9 => h9) rfl d_R_shY_86 ?_
          refine lv_ladd hx hb d_R_shY_89 ?_
          refine lv_iload_n hx hb d_R_shY_90 rfl (lv_at hl 0 rfl) ?_
          refine lv_i2l hx hb d_R_shY_91 rfl ?_
          refine lv_aload_n hx hb d_R_shY_92 rfl (lv_at hl 1 rfl) ?_
          refine va_get (D := D) (ci := 1) (v := .long ry) (C := R_Reducer) (T := F_Reducer) (N := 7) hx hb htg i_Reducer hown hK hP 0 rfl rfl 4 (by decide) (htg _ tm_60) (fun _ h9 => h9) rfl d_R_shY_93 ?_
          refine lv_lmul hx hb d_R_shY_96 ?_
          refine lv_lsub hx hb d_R_shY_97 ?_
          refine va_put (D := D) (ci := 1) (v := .long ((ra + rc) - (((1 : Int32).toInt64) * ry))) (ty := .long) (C := R_Reducer) (T := F_Reducer) (N := 7) hx hb htg i_Reducer t_Reducer t_Reducer_ok n_Reducer hown hK hP hD hS 0 rfl rfl 2 (by decide) (htg _ tm_58) (fun _ h9 => h9) rfl (by decide +kernel) rfl rfl (Nat.le_of_ble_eq_true rfl) d_R_shY_98 (fun H locs hP hD hS => ?_)
          have hP : va_P D classes ([(h0, .inr (1, [.long ra, .long rb, .long ((ra + rc) - (((1 : Int32).toInt64) * ry)), .long rx, .long ry, .long rz, .int rs]))] ++ wt) H := hP
          have hD : va_D A ([(h0, .inr (1, [.long ra, .long rb, .long ((ra + rc) - (((1 : Int32).toInt64) * ry)), .long rx, .long ry, .long rz, .int rs]))] ++ wt) := hD
          refine lv_aload_n hx hb d_R_shY_101 rfl (lv_at hl 1 rfl) ?_
          refine lv_aload_n hx hb d_R_shY_102 rfl (lv_at hl 1 rfl) ?_
          refine va_get (D := D) (ci := 1) (v := .long rx) (C := R_Reducer) (T := F_Reducer) (N := 7) hx hb htg i_Reducer hown hK hP 0 rfl rfl 3 (by decide) (htg _ tm_59) (fun _ h9 => h9) rfl d_R_shY_103 ?_
          refine lv_iload_n hx hb d_R_shY_106 rfl (lv_at hl 0 rfl) ?_
          refine lv_i2l hx hb d_R_shY_107 rfl ?_
          refine lv_aload_n hx hb d_R_shY_108 rfl (lv_at hl 1 rfl) ?_
          refine va_get (D := D) (ci := 1) (v := .long rz) (C := R_Reducer) (T := F_Reducer) (N := 7) hx hb htg i_Reducer hown hK hP 0 rfl rfl 5 (by decide) (htg _ tm_61) (fun _ h9 => h9) rfl d_R_shY_109 ?_
          refine lv_lmul hx hb d_R_shY_112 ?_
          refine lv_lsub hx hb d_R_shY_113 ?_
          refine va_put (D := D) (ci := 1) (v := .long (rx - (((1 : Int32).toInt64) * rz))) (ty := .long) (C := R_Reducer) (T := F_Reducer) (N := 7) hx hb htg i_Reducer t_Reducer t_Reducer_ok n_Reducer hown hK hP hD hS 0 rfl rfl 3 (by decide) (htg _ tm_59) (fun _ h9 => h9) rfl (by decide +kernel) rfl rfl (Nat.le_of_ble_eq_true rfl) d_R_shY_114 (fun H locs hP hD hS => ?_)
          have hP : va_P D classes ([(h0, .inr (1, [.long ra, .long rb, .long ((ra + rc) - (((1 : Int32).toInt64) * ry)), .long (rx - (((1 : Int32).toInt64) * rz)), .long ry, .long rz, .int rs]))] ++ wt) H := hP
          have hD : va_D A ([(h0, .inr (1, [.long ra, .long rb, .long ((ra + rc) - (((1 : Int32).toInt64) * ry)), .long (rx - (((1 : Int32).toInt64) * rz)), .long ry, .long rz, .int rs]))] ++ wt) := hD
          refine lv_aload_n hx hb d_R_shY_117 rfl (lv_at hl 1 rfl) ?_
          refine lv_aload_n hx hb d_R_shY_118 rfl (lv_at hl 1 rfl) ?_
          refine va_get (D := D) (ci := 1) (v := .long ry) (C := R_Reducer) (T := F_Reducer) (N := 7) hx hb htg i_Reducer hown hK hP 0 rfl rfl 4 (by decide) (htg _ tm_60) (fun _ h9 => h9) rfl d_R_shY_119 ?_
          refine lv_iconst (v := (2 : Int32)) hx hb d_R_shY_122 (by decide) ?_
          refine lv_iload_n hx hb d_R_shY_123 rfl (lv_at hl 0 rfl) ?_
          refine lv_imul hx hb d_R_shY_124 ?_
          refine lv_i2l hx hb d_R_shY_125 rfl ?_
          refine lv_aload_n hx hb d_R_shY_126 rfl (lv_at hl 1 rfl) ?_
          refine va_get (D := D) (ci := 1) (v := .long ra) (C := R_Reducer) (T := F_Reducer) (N := 7) hx hb htg i_Reducer hown hK hP 0 rfl rfl 0 (by decide) (htg _ tm_56) (fun _ h9 => h9) rfl d_R_shY_127 ?_
          refine lv_lmul hx hb d_R_shY_130 ?_
          refine lv_lsub hx hb d_R_shY_131 ?_
          refine va_put (D := D) (ci := 1) (v := .long (ry - ((((2 : Int32) * (1 : Int32)).toInt64) * ra))) (ty := .long) (C := R_Reducer) (T := F_Reducer) (N := 7) hx hb htg i_Reducer t_Reducer t_Reducer_ok n_Reducer hown hK hP hD hS 0 rfl rfl 4 (by decide) (htg _ tm_60) (fun _ h9 => h9) rfl (by decide +kernel) rfl rfl (Nat.le_of_ble_eq_true rfl) d_R_shY_132 (fun H locs hP hD hS => ?_)
          have hP : va_P D classes ([(h0, .inr (1, [.long ra, .long rb, .long ((ra + rc) - (((1 : Int32).toInt64) * ry)), .long (rx - (((1 : Int32).toInt64) * rz)), .long (ry - ((((2 : Int32) * (1 : Int32)).toInt64) * ra)), .long rz, .int rs]))] ++ wt) H := hP
          have hD : va_D A ([(h0, .inr (1, [.long ra, .long rb, .long ((ra + rc) - (((1 : Int32).toInt64) * ry)), .long (rx - (((1 : Int32).toInt64) * rz)), .long (ry - ((((2 : Int32) * (1 : Int32)).toInt64) * ra)), .long rz, .int rs]))] ++ wt) := hD
          refine lv_iconst (v := (1 : Int32)) hx hb d_R_shY_135 (by decide) ?_
          exact W.zret (v := (1 : Int32)) (ty := .boolean) hx hb hr rfl (fun t ht hW => ⟨⟨(1 : Int32), (ra, rb, (ra + rc) - (((1 : Int32).toInt64) * ry), rx - (((1 : Int32).toInt64) * rz), ry - ((((2 : Int32) * (1 : Int32)).toInt64) * ra), rz, rs), rfl, h, by rw [ht]; exact hP, hD⟩, hS.F ht⟩) hS.2.2 d_R_shY_136
      · rw [if_neg c_7] at h
        refine lv_aload_n hx hb d_R_shY_43 rfl (lv_at hl 0 rfl) ?_
        refine va_get (D := D) (ci := 1) (v := .long ry) (C := R_Reducer) (T := F_Reducer) (N := 7) hx hb htg i_Reducer hown hK hP 0 rfl rfl 4 (by decide) (htg _ tm_60) (fun _ h9 => h9) rfl d_R_shY_44 ?_
        refine lv_aload_n hx hb d_R_shY_47 rfl (lv_at hl 0 rfl) ?_
        refine va_get (D := D) (ci := 1) (v := .long ra) (C := R_Reducer) (T := F_Reducer) (N := 7) hx hb htg i_Reducer hown hK hP 0 rfl rfl 0 (by decide) (htg _ tm_56) (fun _ h9 => h9) rfl d_R_shY_48 ?_
        refine lv_lneg hx hb d_R_shY_51 ?_
        refine W.lcmp hx hb d_R_shY_52 ?_
        refine lv_if_ne (tgt := 137) hx hb d_R_shY_53 (by decide) (fun c_9 => ?_) (fun c_9 => ?_)
        · rw [if_neg c_9] at h
          refine lv_iconst (v := (0 : Int32)) hx hb d_R_shY_137 (by decide) ?_
          exact W.zret (v := (0 : Int32)) (ty := .boolean) hx hb hr rfl (fun t ht hW => ⟨⟨(0 : Int32), (ra, rb, rc, rx, ry, rz, rs), rfl, h, by rw [ht]; exact hP, hD⟩, hS.F ht⟩) hS.2.2 d_R_shY_138
        · rw [if_pos c_9] at h
          refine lv_aload_n hx hb d_R_shY_56 rfl (lv_at hl 0 rfl) ?_
          refine va_get (D := D) (ci := 1) (v := .long rz) (C := R_Reducer) (T := F_Reducer) (N := 7) hx hb htg i_Reducer hown hK hP 0 rfl rfl 5 (by decide) (htg _ tm_61) (fun _ h9 => h9) rfl d_R_shY_57 ?_
          refine lv_lconst (v := (0 : Int64)) hx hb d_R_shY_60 (by decide) ?_
          refine W.lcmp hx hb d_R_shY_61 ?_
          refine lv_if_ge (tgt := 137) hx hb d_R_shY_62 (by decide) (fun c_10 => ?_) (fun c_10 => ?_)
          · rw [if_pos c_10] at h
            refine lv_iconst (v := (0 : Int32)) hx hb d_R_shY_137 (by decide) ?_
            exact W.zret (v := (0 : Int32)) (ty := .boolean) hx hb hr rfl (fun t ht hW => ⟨⟨(0 : Int32), (ra, rb, rc, rx, ry, rz, rs), rfl, h, by rw [ht]; exact hP, hD⟩, hS.F ht⟩) hS.2.2 d_R_shY_138
          · rw [if_neg c_10] at h
            refine lv_aload_n hx hb d_R_shY_65 rfl (lv_at hl 0 rfl) ?_
            refine va_get (D := D) (ci := 1) (v := .long ry) (C := R_Reducer) (T := F_Reducer) (N := 7) hx hb htg i_Reducer hown hK hP 0 rfl rfl 4 (by decide) (htg _ tm_60) (fun _ h9 => h9) rfl d_R_shY_66 ?_
            refine lv_lconst (v := (0 : Int64)) hx hb d_R_shY_69 (by decide) ?_
            refine W.lcmp hx hb d_R_shY_70 ?_
            refine lv_if_le (tgt := 78) hx hb d_R_shY_71 (by decide) (fun c_11 => ?_) (fun c_11 => ?_)
            · rw [if_pos c_11] at h
              refine lv_iconst (v := (-1 : Int32)) hx hb d_R_shY_78 (by decide) ?_
              refine lv_istore_n (lv' := [(1, .int (-1 : Int32)), (0, .ref h0)]) hx hb d_R_shY_79 rfl hl (by decide) rfl (fun ls hl => ?_)
              refine lv_aload_n hx hb d_R_shY_80 rfl (lv_at hl 1 rfl) ?_
              refine lv_aload_n hx hb d_R_shY_81 rfl (lv_at hl 1 rfl) ?_
              refine va_get (D := D) (ci := 1) (v := .long ra) (C := R_Reducer) (T := F_Reducer) (N := 7) hx hb htg i_Reducer hown hK hP 0 rfl rfl 0 (by decide) (htg _ tm_56) (fun _ h9 => h9) rfl d_R_shY_82 ?_
              refine lv_aload_n hx hb d_R_shY_85 rfl (lv_at hl 1 rfl) ?_
              refine va_get (D := D) (ci := 1) (v := .long rc) (C := R_Reducer) (T := F_Reducer) (N := 7) hx hb htg i_Reducer hown hK hP 0 rfl rfl 2 (by decide) (htg _ tm_58) (fun _ h9 => h9) rfl d_R_shY_86 ?_
              refine lv_ladd hx hb d_R_shY_89 ?_
              refine lv_iload_n hx hb d_R_shY_90 rfl (lv_at hl 0 rfl) ?_
              refine lv_i2l hx hb d_R_shY_91 rfl ?_
              refine lv_aload_n hx hb d_R_shY_92 rfl (lv_at hl 1 rfl) ?_
              refine va_get (D := D) (ci := 1) (v := .long ry) (C := R_Reducer) (T := F_Reducer) (N := 7) hx hb htg i_Reducer hown hK hP 0 rfl rfl 4 (by decide) (htg _ tm_60) (fun _ h9 => h9) rfl d_R_shY_93 ?_
              refine lv_lmul hx hb d_R_shY_96 ?_
              refine lv_lsub hx hb d_R_shY_97 ?_
              refine va_put (D := D) (ci := 1) (v := .long ((ra + rc) - (((-1 : Int32).toInt64) * ry))) (ty := .long) (C := R_Reducer) (T := F_Reducer) (N := 7) hx hb htg i_Reducer t_Reducer t_Reducer_ok n_Reducer hown hK hP hD hS 0 rfl rfl 2 (by decide) (htg _ tm_58) (fun _ h9 => h9) rfl (by decide +kernel) rfl rfl (Nat.le_of_ble_eq_true rfl) d_R_shY_98 (fun H locs hP hD hS => ?_)
              have hP : va_P D classes ([(h0, .inr (1, [.long ra, .long rb, .long ((ra + rc) - (((-1 : Int32).toInt64) * ry)), .long rx, .long ry, .long rz, .int rs]))] ++ wt) H := hP
              have hD : va_D A ([(h0, .inr (1, [.long ra, .long rb, .long ((ra + rc) - (((-1 : Int32).toInt64) * ry)), .long rx, .long ry, .long rz, .int rs]))] ++ wt) := hD
              refine lv_aload_n hx hb d_R_shY_101 rfl (lv_at hl 1 rfl) ?_
              refine lv_aload_n hx hb d_R_shY_102 rfl (lv_at hl 1 rfl) ?_
              refine va_get (D := D) (ci := 1) (v := .long rx) (C := R_Reducer) (T := F_Reducer) (N := 7) hx hb htg i_Reducer hown hK hP 0 rfl rfl 3 (by decide) (htg _ tm_59) (fun _ h9 => h9) rfl d_R_shY_103 ?_
              refine lv_iload_n hx hb d_R_shY_106 rfl (lv_at hl 0 rfl) ?_
              refine lv_i2l hx hb d_R_shY_107 rfl ?_
              refine lv_aload_n hx hb d_R_shY_108 rfl (lv_at hl 1 rfl) ?_
              refine va_get (D := D) (ci := 1) (v := .long rz) (C := R_Reducer) (T := F_Reducer) (N := 7) hx hb htg i_Reducer hown hK hP 0 rfl rfl 5 (by decide) (htg _ tm_61) (fun _ h9 => h9) rfl d_R_shY_109 ?_
              refine lv_lmul hx hb d_R_shY_112 ?_
              refine lv_lsub hx hb d_R_shY_113 ?_
              refine va_put (D := D) (ci := 1) (v := .long (rx - (((-1 : Int32).toInt64) * rz))) (ty := .long) (C := R_Reducer) (T := F_Reducer) (N := 7) hx hb htg i_Reducer t_Reducer t_Reducer_ok n_Reducer hown hK hP hD hS 0 rfl rfl 3 (by decide) (htg _ tm_59) (fun _ h9 => h9) rfl (by decide +kernel) rfl rfl (Nat.le_of_ble_eq_true rfl) d_R_shY_114 (fun H locs hP hD hS => ?_)
              have hP : va_P D classes ([(h0, .inr (1, [.long ra, .long rb, .long ((ra + rc) - (((-1 : Int32).toInt64) * ry)), .long (rx - (((-1 : Int32).toInt64) * rz)), .long ry, .long rz, .int rs]))] ++ wt) H := hP
              have hD : va_D A ([(h0, .inr (1, [.long ra, .long rb, .long ((ra + rc) - (((-1 : Int32).toInt64) * ry)), .long (rx - (((-1 : Int32).toInt64) * rz)), .long ry, .long rz, .int rs]))] ++ wt) := hD
              refine lv_aload_n hx hb d_R_shY_117 rfl (lv_at hl 1 rfl) ?_
              refine lv_aload_n hx hb d_R_shY_118 rfl (lv_at hl 1 rfl) ?_
              refine va_get (D := D) (ci := 1) (v := .long ry) (C := R_Reducer) (T := F_Reducer) (N := 7) hx hb htg i_Reducer hown hK hP 0 rfl rfl 4 (by decide) (htg _ tm_60) (fun _ h9 => h9) rfl d_R_shY_119 ?_
              refine lv_iconst (v := (2 : Int32)) hx hb d_R_shY_122 (by decide) ?_
              refine lv_iload_n hx hb d_R_shY_123 rfl (lv_at hl 0 rfl) ?_
              refine lv_imul hx hb d_R_shY_124 ?_
              refine lv_i2l hx hb d_R_shY_125 rfl ?_
              refine lv_aload_n hx hb d_R_shY_126 rfl (lv_at hl 1 rfl) ?_
              refine va_get (D := D) (ci := 1) (v := .long ra) (C := R_Reducer) (T := F_Reducer) (N := 7) hx hb htg i_Reducer hown hK hP 0 rfl rfl 0 (by decide) (htg _ tm_56) (fun _ h9 => h9) rfl d_R_shY_127 ?_
              refine lv_lmul hx hb d_R_shY_130 ?_
              refine lv_lsub hx hb d_R_shY_131 ?_
              refine va_put (D := D) (ci := 1) (v := .long (ry - ((((2 : Int32) * (-1 : Int32)).toInt64) * ra))) (ty := .long) (C := R_Reducer) (T := F_Reducer) (N := 7) hx hb htg i_Reducer t_Reducer t_Reducer_ok n_Reducer hown hK hP hD hS 0 rfl rfl 4 (by decide) (htg _ tm_60) (fun _ h9 => h9) rfl (by decide +kernel) rfl rfl (Nat.le_of_ble_eq_true rfl) d_R_shY_132 (fun H locs hP hD hS => ?_)
              have hP : va_P D classes ([(h0, .inr (1, [.long ra, .long rb, .long ((ra + rc) - (((-1 : Int32).toInt64) * ry)), .long (rx - (((-1 : Int32).toInt64) * rz)), .long (ry - ((((2 : Int32) * (-1 : Int32)).toInt64) * ra)), .long rz, .int rs]))] ++ wt) H := hP
              have hD : va_D A ([(h0, .inr (1, [.long ra, .long rb, .long ((ra + rc) - (((-1 : Int32).toInt64) * ry)), .long (rx - (((-1 : Int32).toInt64) * rz)), .long (ry - ((((2 : Int32) * (-1 : Int32)).toInt64) * ra)), .long rz, .int rs]))] ++ wt) := hD
              refine lv_iconst (v := (1 : Int32)) hx hb d_R_shY_135 (by decide) ?_
              exact W.zret (v := (1 : Int32)) (ty := .boolean) hx hb hr rfl (fun t ht hW => ⟨⟨(1 : Int32), (ra, rb, (ra + rc) - (((-1 : Int32).toInt64) * ry), rx - (((-1 : Int32).toInt64) * rz), ry - ((((2 : Int32) * (-1 : Int32)).toInt64) * ra), rz, rs), rfl, h, by rw [ht]; exact hP, hD⟩, hS.F ht⟩) hS.2.2 d_R_shY_136
            · rw [if_neg c_11] at h
              refine lv_iconst (v := (1 : Int32)) hx hb d_R_shY_74 (by decide) ?_
              refine lv_goto (tgt := 79) hx hb d_R_shY_75 (by decide) ?_
              refine lv_istore_n (lv' := [(1, .int (1 : Int32)), (0, .ref h0)]) hx hb d_R_shY_79 rfl hl (by decide) rfl (fun ls hl => ?_)
              refine lv_aload_n hx hb d_R_shY_80 rfl (lv_at hl 1 rfl) ?_
              refine lv_aload_n hx hb d_R_shY_81 rfl (lv_at hl 1 rfl) ?_
              refine va_get (D := D) (ci := 1) (v := .long ra) (C := R_Reducer) (T := F_Reducer) (N := 7) hx hb htg i_Reducer hown hK hP 0 rfl rfl 0 (by decide) (htg _ tm_56) (fun _ h9 => h9) rfl d_R_shY_82 ?_
              refine lv_aload_n hx hb d_R_shY_85 rfl (lv_at hl 1 rfl) ?_
              refine va_get (D := D) (ci := 1) (v := .long rc) (C := R_Reducer) (T := F_Reducer) (N := 7) hx hb htg i_Reducer hown hK hP 0 rfl rfl 2 (by decide) (htg _ tm_58) (fun _ h9 => h9) rfl d_R_shY_86 ?_
              refine lv_ladd hx hb d_R_shY_89 ?_
              refine lv_iload_n hx hb d_R_shY_90 rfl (lv_at hl 0 rfl) ?_
              refine lv_i2l hx hb d_R_shY_91 rfl ?_
              refine lv_aload_n hx hb d_R_shY_92 rfl (lv_at hl 1 rfl) ?_
              refine va_get (D := D) (ci := 1) (v := .long ry) (C := R_Reducer) (T := F_Reducer) (N := 7) hx hb htg i_Reducer hown hK hP 0 rfl rfl 4 (by decide) (htg _ tm_60) (fun _ h9 => h9) rfl d_R_shY_93 ?_
              refine lv_lmul hx hb d_R_shY_96 ?_
              refine lv_lsub hx hb d_R_shY_97 ?_
              refine va_put (D := D) (ci := 1) (v := .long ((ra + rc) - (((1 : Int32).toInt64) * ry))) (ty := .long) (C := R_Reducer) (T := F_Reducer) (N := 7) hx hb htg i_Reducer t_Reducer t_Reducer_ok n_Reducer hown hK hP hD hS 0 rfl rfl 2 (by decide) (htg _ tm_58) (fun _ h9 => h9) rfl (by decide +kernel) rfl rfl (Nat.le_of_ble_eq_true rfl) d_R_shY_98 (fun H locs hP hD hS => ?_)
              have hP : va_P D classes ([(h0, .inr (1, [.long ra, .long rb, .long ((ra + rc) - (((1 : Int32).toInt64) * ry)), .long rx, .long ry, .long rz, .int rs]))] ++ wt) H := hP
              have hD : va_D A ([(h0, .inr (1, [.long ra, .long rb, .long ((ra + rc) - (((1 : Int32).toInt64) * ry)), .long rx, .long ry, .long rz, .int rs]))] ++ wt) := hD
              refine lv_aload_n hx hb d_R_shY_101 rfl (lv_at hl 1 rfl) ?_
              refine lv_aload_n hx hb d_R_shY_102 rfl (lv_at hl 1 rfl) ?_
              refine va_get (D := D) (ci := 1) (v := .long rx) (C := R_Reducer) (T := F_Reducer) (N := 7) hx hb htg i_Reducer hown hK hP 0 rfl rfl 3 (by decide) (htg _ tm_59) (fun _ h9 => h9) rfl d_R_shY_103 ?_
              refine lv_iload_n hx hb d_R_shY_106 rfl (lv_at hl 0 rfl) ?_
              refine lv_i2l hx hb d_R_shY_107 rfl ?_
              refine lv_aload_n hx hb d_R_shY_108 rfl (lv_at hl 1 rfl) ?_
              refine va_get (D := D) (ci := 1) (v := .long rz) (C := R_Reducer) (T := F_Reducer) (N := 7) hx hb htg i_Reducer hown hK hP 0 rfl rfl 5 (by decide) (htg _ tm_61) (fun _ h9 => h9) rfl d_R_shY_109 ?_
              refine lv_lmul hx hb d_R_shY_112 ?_
              refine lv_lsub hx hb d_R_shY_113 ?_
              refine va_put (D := D) (ci := 1) (v := .long (rx - (((1 : Int32).toInt64) * rz))) (ty := .long) (C := R_Reducer) (T := F_Reducer) (N := 7) hx hb htg i_Reducer t_Reducer t_Reducer_ok n_Reducer hown hK hP hD hS 0 rfl rfl 3 (by decide) (htg _ tm_59) (fun _ h9 => h9) rfl (by decide +kernel) rfl rfl (Nat.le_of_ble_eq_true rfl) d_R_shY_114 (fun H locs hP hD hS => ?_)
              have hP : va_P D classes ([(h0, .inr (1, [.long ra, .long rb, .long ((ra + rc) - (((1 : Int32).toInt64) * ry)), .long (rx - (((1 : Int32).toInt64) * rz)), .long ry, .long rz, .int rs]))] ++ wt) H := hP
              have hD : va_D A ([(h0, .inr (1, [.long ra, .long rb, .long ((ra + rc) - (((1 : Int32).toInt64) * ry)), .long (rx - (((1 : Int32).toInt64) * rz)), .long ry, .long rz, .int rs]))] ++ wt) := hD
              refine lv_aload_n hx hb d_R_shY_117 rfl (lv_at hl 1 rfl) ?_
              refine lv_aload_n hx hb d_R_shY_118 rfl (lv_at hl 1 rfl) ?_
              refine va_get (D := D) (ci := 1) (v := .long ry) (C := R_Reducer) (T := F_Reducer) (N := 7) hx hb htg i_Reducer hown hK hP 0 rfl rfl 4 (by decide) (htg _ tm_60) (fun _ h9 => h9) rfl d_R_shY_119 ?_
              refine lv_iconst (v := (2 : Int32)) hx hb d_R_shY_122 (by decide) ?_
              refine lv_iload_n hx hb d_R_shY_123 rfl (lv_at hl 0 rfl) ?_
              refine lv_imul hx hb d_R_shY_124 ?_
              refine lv_i2l hx hb d_R_shY_125 rfl ?_
              refine lv_aload_n hx hb d_R_shY_126 rfl (lv_at hl 1 rfl) ?_
              refine va_get (D := D) (ci := 1) (v := .long ra) (C := R_Reducer) (T := F_Reducer) (N := 7) hx hb htg i_Reducer hown hK hP 0 rfl rfl 0 (by decide) (htg _ tm_56) (fun _ h9 => h9) rfl d_R_shY_127 ?_
              refine lv_lmul hx hb d_R_shY_130 ?_
              refine lv_lsub hx hb d_R_shY_131 ?_
              refine va_put (D := D) (ci := 1) (v := .long (ry - ((((2 : Int32) * (1 : Int32)).toInt64) * ra))) (ty := .long) (C := R_Reducer) (T := F_Reducer) (N := 7) hx hb htg i_Reducer t_Reducer t_Reducer_ok n_Reducer hown hK hP hD hS 0 rfl rfl 4 (by decide) (htg _ tm_60) (fun _ h9 => h9) rfl (by decide +kernel) rfl rfl (Nat.le_of_ble_eq_true rfl) d_R_shY_132 (fun H locs hP hD hS => ?_)
              have hP : va_P D classes ([(h0, .inr (1, [.long ra, .long rb, .long ((ra + rc) - (((1 : Int32).toInt64) * ry)), .long (rx - (((1 : Int32).toInt64) * rz)), .long (ry - ((((2 : Int32) * (1 : Int32)).toInt64) * ra)), .long rz, .int rs]))] ++ wt) H := hP
              have hD : va_D A ([(h0, .inr (1, [.long ra, .long rb, .long ((ra + rc) - (((1 : Int32).toInt64) * ry)), .long (rx - (((1 : Int32).toInt64) * rz)), .long (ry - ((((2 : Int32) * (1 : Int32)).toInt64) * ra)), .long rz, .int rs]))] ++ wt) := hD
              refine lv_iconst (v := (1 : Int32)) hx hb d_R_shY_135 (by decide) ?_
              exact W.zret (v := (1 : Int32)) (ty := .boolean) hx hb hr rfl (fun t ht hW => ⟨⟨(1 : Int32), (ra, rb, (ra + rc) - (((1 : Int32).toInt64) * ry), rx - (((1 : Int32).toInt64) * rz), ry - ((((2 : Int32) * (1 : Int32)).toInt64) * ra), rz, rs), rfl, h, by rw [ht]; exact hP, hD⟩, hS.F ht⟩) hS.2.2 d_R_shY_136
-- CellBench$Reducer shearByZ ()Z
def f_R_shZ (ra : Int64) (rb : Int64) (rc : Int64) (rx : Int64) (ry : Int64) (rz : Int64) (rs : Int32) : Int32 × Int64 × Int64 × Int64 × Int64 × Int64 × Int64 × Int32 :=
    if 0 < (lg_cmp (if 0 < rz then rz else -rz) ra) then (if (lg_cmp rz (0 : Int64)) ≤ 0 then ((1 : Int32), ra, (ra + rb) - (((-1 : Int32).toInt64) * rz), rc, rx - (((-1 : Int32).toInt64) * ry), ry, rz - ((((2 : Int32) * (-1 : Int32)).toInt64) * ra), rs) else ((1 : Int32), ra, (ra + rb) - (((1 : Int32).toInt64) * rz), rc, rx - (((1 : Int32).toInt64) * ry), ry, rz - ((((2 : Int32) * (1 : Int32)).toInt64) * ra), rs)) else (if (lg_cmp rz ra) = 0 then (if (lg_cmp ((2 : Int64) * rx) ry) < 0 then (if (lg_cmp rz (0 : Int64)) ≤ 0 then ((1 : Int32), ra, (ra + rb) - (((-1 : Int32).toInt64) * rz), rc, rx - (((-1 : Int32).toInt64) * ry), ry, rz - ((((2 : Int32) * (-1 : Int32)).toInt64) * ra), rs) else ((1 : Int32), ra, (ra + rb) - (((1 : Int32).toInt64) * rz), rc, rx - (((1 : Int32).toInt64) * ry), ry, rz - ((((2 : Int32) * (1 : Int32)).toInt64) * ra), rs)) else (if (lg_cmp rz (-ra)) = 0 then (if 0 ≤ (lg_cmp ry (0 : Int64)) then ((0 : Int32), ra, rb, rc, rx, ry, rz, rs) else (if (lg_cmp rz (0 : Int64)) ≤ 0 then ((1 : Int32), ra, (ra + rb) - (((-1 : Int32).toInt64) * rz), rc, rx - (((-1 : Int32).toInt64) * ry), ry, rz - ((((2 : Int32) * (-1 : Int32)).toInt64) * ra), rs) else ((1 : Int32), ra, (ra + rb) - (((1 : Int32).toInt64) * rz), rc, rx - (((1 : Int32).toInt64) * ry), ry, rz - ((((2 : Int32) * (1 : Int32)).toInt64) * ra), rs))) else ((0 : Int32), ra, rb, rc, rx, ry, rz, rs))) else (if (lg_cmp rz (-ra)) = 0 then (if 0 ≤ (lg_cmp ry (0 : Int64)) then ((0 : Int32), ra, rb, rc, rx, ry, rz, rs) else (if (lg_cmp rz (0 : Int64)) ≤ 0 then ((1 : Int32), ra, (ra + rb) - (((-1 : Int32).toInt64) * rz), rc, rx - (((-1 : Int32).toInt64) * ry), ry, rz - ((((2 : Int32) * (-1 : Int32)).toInt64) * ra), rs) else ((1 : Int32), ra, (ra + rb) - (((1 : Int32).toInt64) * rz), rc, rx - (((1 : Int32).toInt64) * ry), ry, rz - ((((2 : Int32) * (1 : Int32)).toInt64) * ra), rs))) else ((0 : Int32), ra, rb, rc, rx, ry, rz, rs)))
def w_R_shZ : List Cond := .code y_R_shZ b_R_shZ 2 (some .boolean) :: GW
abbrev rm_R_shZ : Room := { frames := 1, cells := 0, slots := 0, locals := 13 }
theorem g_R_shZ : GoodIn GW w_R_shZ := gi tm_213
set_option maxHeartbeats 4000000 in
set_option maxRecDepth 100000 in
theorem c_R_shZ (l : Launch) (D : va_G) (ct : CT) (A : Nat → Prop) (wt : va_W)  (h0 : Nat) (ra : Int64) (rb : Int64) (rc : Int64) (rx : Int64) (ry : Int64) (rz : Int64) (rs : Int32)   (r0 : Int32 × Int64 × Int64 × Int64 × Int64 × Int64 × Int64 × Int32) (h : f_R_shZ ra rb rc rx ry rz rs = r0) : Met l y_R_shZ w_R_shZ rm_R_shZ (va_Pc [.ref h0] (PreM D ct A ([(h0, .inr (1, [.long ra, .long rb, .long rc, .long rx, .long ry, .long rz, .int rs]))] ++ wt))) (va_Qi (fun r u => (r, u) = r0) (fun (u : Int64 × Int64 × Int64 × Int64 × Int64 × Int64 × Int32) t => match u with | (ra', rb', rc', rx', ry', rz', rs') => va_P D classes ([(h0, .inr (1, [.long ra', .long rb', .long rc', .long rx', .long ry', .long rz', .int rs']))] ++ wt) t.heap ∧ va_D A ([(h0, .inr (1, [.long ra', .long rb', .long rc', .long rx', .long ry', .long rz', .int rs']))] ++ wt)) A) 0 0 A := by
  refine Met.ofW (cc := b_R_shZ) (maxL := 2) (ret := (some .boolean)) (by decide) rfl ?_
  intro p e s m args below meth c s₁ B hml hv
  obtain ⟨rfl, hA, hP, hD, hKK⟩ := hv
  have hx := B.exec
  have hb := B.bytes
  have hr := B.returns
  have htg := ht_tl (atoms_spec (ws := w_R_shZ) B.pre)
  have hown : s.vm.findClass R_Reducer = some m.cls := findClass_of_methodNamed B.named
  have hlocks := B.notSynchronized
  have hK := hKK.1
  have hN := hKK.2.1
  have hO := hKK.2.2
  have hS : va_S A s.heap s.heap [] := va_S.rf
  have hl := lv_entry ([.ref h0]) (n := 2) (Nat.le_of_ble_eq_true rfl)
  rw [lg_entry_eq]
  generalize (lg_sl ([.ref h0]) ++ List.replicate (2 - (lg_sl ([.ref h0])).length) Slot.unset).toArray = ls at hl ⊢
  have hl : lv_has ls 2 [(0, .ref h0)] := hl
  unfold f_R_shZ at h
  refine lv_aload_n hx hb d_R_shZ_0 rfl (lv_at hl 0 rfl) ?_
  refine va_get (D := D) (ci := 1) (v := .long rz) (C := R_Reducer) (T := F_Reducer) (N := 7) hx hb htg i_Reducer hown hK hP 0 rfl rfl 5 (by decide) (htg _ tm_61) (fun _ h9 => h9) rfl d_R_shZ_1 ?_
  refine va_mabs_long hx hb (by rw [hml]; exact hl.1.symm) hown (htg _ tm_188) (htg _ tm_189) (htg _ tm_36) (htg _ tm_190) (Nat.le_of_ble_eq_true rfl) (Nat.le_of_ble_eq_true rfl) (Nat.le_of_ble_eq_true rfl) (Nat.le_of_ble_eq_true rfl) d_R_shZ_4 ?_
  refine lv_aload_n hx hb d_R_shZ_7 rfl (lv_at hl 0 rfl) ?_
  refine va_get (D := D) (ci := 1) (v := .long ra) (C := R_Reducer) (T := F_Reducer) (N := 7) hx hb htg i_Reducer hown hK hP 0 rfl rfl 0 (by decide) (htg _ tm_56) (fun _ h9 => h9) rfl d_R_shZ_8 ?_
  refine W.lcmp hx hb d_R_shZ_11 ?_
  refine lv_if_gt (tgt := 65) hx hb d_R_shZ_12 (by decide) (fun c_1 => ?_) (fun c_1 => ?_)
  · rw [if_pos c_1] at h
    refine lv_aload_n hx hb d_R_shZ_65 rfl (lv_at hl 0 rfl) ?_
    refine va_get (D := D) (ci := 1) (v := .long rz) (C := R_Reducer) (T := F_Reducer) (N := 7) hx hb htg i_Reducer hown hK hP 0 rfl rfl 5 (by decide) (htg _ tm_61) (fun _ h9 => h9) rfl d_R_shZ_66 ?_
    refine lv_lconst (v := (0 : Int64)) hx hb d_R_shZ_69 (by decide) ?_
    refine W.lcmp hx hb d_R_shZ_70 ?_
    refine lv_if_le (tgt := 78) hx hb d_R_shZ_71 (by decide) (fun c_2 => ?_) (fun c_2 => ?_)
    · rw [if_pos c_2] at h
      refine lv_iconst (v := (-1 : Int32)) hx hb d_R_shZ_78 (by decide) ?_
      refine lv_istore_n (lv' := [(1, .int (-1 : Int32)), (0, .ref h0)]) hx hb d_R_shZ_79 rfl hl (by decide) rfl (fun ls hl => ?_)
      refine lv_aload_n hx hb d_R_shZ_80 rfl (lv_at hl 1 rfl) ?_
      refine lv_aload_n hx hb d_R_shZ_81 rfl (lv_at hl 1 rfl) ?_
      refine va_get (D := D) (ci := 1) (v := .long ra) (C := R_Reducer) (T := F_Reducer) (N := 7) hx hb htg i_Reducer hown hK hP 0 rfl rfl 0 (by decide) (htg _ tm_56) (fun _ h9 => h9) rfl d_R_shZ_82 ?_
      refine lv_aload_n hx hb d_R_shZ_85 rfl (lv_at hl 1 rfl) ?_
      refine va_get (D := D) (ci := 1) (v := .long rb) (C := R_Reducer) (T := F_Reducer) (N := 7) hx hb htg i_Reducer hown hK hP 0 rfl rfl 1 (by decide) (htg _ tm_57) (fun _ h9 => h9) rfl d_R_shZ_86 ?_
      refine lv_ladd hx hb d_R_shZ_89 ?_
      refine lv_iload_n hx hb d_R_shZ_90 rfl (lv_at hl 0 rfl) ?_
      refine lv_i2l hx hb d_R_shZ_91 rfl ?_
      refine lv_aload_n hx hb d_R_shZ_92 rfl (lv_at hl 1 rfl) ?_
      refine va_get (D := D) (ci := 1) (v := .long rz) (C := R_Reducer) (T := F_Reducer) (N := 7) hx hb htg i_Reducer hown hK hP 0 rfl rfl 5 (by decide) (htg _ tm_61) (fun _ h9 => h9) rfl d_R_shZ_93 ?_
      refine lv_lmul hx hb d_R_shZ_96 ?_
      refine lv_lsub hx hb d_R_shZ_97 ?_
      refine va_put (D := D) (ci := 1) (v := .long ((ra + rb) - (((-1 : Int32).toInt64) * rz))) (ty := .long) (C := R_Reducer) (T := F_Reducer) (N := 7) hx hb htg i_Reducer t_Reducer t_Reducer_ok n_Reducer hown hK hP hD hS 0 rfl rfl 1 (by decide) (htg _ tm_57) (fun _ h9 => h9) rfl (by decide +kernel) rfl rfl (Nat.le_of_ble_eq_true rfl) d_R_shZ_98 (fun H locs hP hD hS => ?_)
      have hP : va_P D classes ([(h0, .inr (1, [.long ra, .long ((ra + rb) - (((-1 : Int32).toInt64) * rz)), .long rc, .long rx, .long ry, .long rz, .int rs]))] ++ wt) H := hP
      have hD : va_D A ([(h0, .inr (1, [.long ra, .long ((ra + rb) - (((-1 : Int32).toInt64) * rz)), .long rc, .long rx, .long ry, .long rz, .int rs]))] ++ wt) := hD
      refine lv_aload_n hx hb d_R_shZ_101 rfl (lv_at hl 1 rfl) ?_
      refine lv_aload_n hx hb d_R_shZ_102 rfl (lv_at hl 1 rfl) ?_
      refine va_get (D := D) (ci := 1) (v := .long rx) (C := R_Reducer) (T := F_Reducer) (N := 7) hx hb htg i_Reducer hown hK hP 0 rfl rfl 3 (by decide) (htg _ tm_59) (fun _ h9 => h9) rfl d_R_shZ_103 ?_
      refine lv_iload_n hx hb d_R_shZ_106 rfl (lv_at hl 0 rfl) ?_
      refine lv_i2l hx hb d_R_shZ_107 rfl ?_
      refine lv_aload_n hx hb d_R_shZ_108 rfl (lv_at hl 1 rfl) ?_
      refine va_get (D := D) (ci := 1) (v := .long ry) (C := R_Reducer) (T := F_Reducer) (N := 7) hx hb htg i_Reducer hown hK hP 0 rfl rfl 4 (by decide) (htg _ tm_60) (fun _ h9 => h9) rfl d_R_shZ_109 ?_
      refine lv_lmul hx hb d_R_shZ_112 ?_
      refine lv_lsub hx hb d_R_shZ_113 ?_
      refine va_put (D := D) (ci := 1) (v := .long (rx - (((-1 : Int32).toInt64) * ry))) (ty := .long) (C := R_Reducer) (T := F_Reducer) (N := 7) hx hb htg i_Reducer t_Reducer t_Reducer_ok n_Reducer hown hK hP hD hS 0 rfl rfl 3 (by decide) (htg _ tm_59) (fun _ h9 => h9) rfl (by decide +kernel) rfl rfl (Nat.le_of_ble_eq_true rfl) d_R_shZ_114 (fun H locs hP hD hS => ?_)
      have hP : va_P D classes ([(h0, .inr (1, [.long ra, .long ((ra + rb) - (((-1 : Int32).toInt64) * rz)), .long rc, .long (rx - (((-1 : Int32).toInt64) * ry)), .long ry, .long rz, .int rs]))] ++ wt) H := hP
      have hD : va_D A ([(h0, .inr (1, [.long ra, .long ((ra + rb) - (((-1 : Int32).toInt64) * rz)), .long rc, .long (rx - (((-1 : Int32).toInt64) * ry)), .long ry, .long rz, .int rs]))] ++ wt) := hD
      refine lv_aload_n hx hb d_R_shZ_117 rfl (lv_at hl 1 rfl) ?_
      refine lv_aload_n hx hb d_R_shZ_118 rfl (lv_at hl 1 rfl) ?_
      refine va_get (D := D) (ci := 1) (v := .long rz) (C := R_Reducer) (T := F_Reducer) (N := 7) hx hb htg i_Reducer hown hK hP 0 rfl rfl 5 (by decide) (htg _ tm_61) (fun _ h9 => h9) rfl d_R_shZ_119 ?_
      refine lv_iconst (v := (2 : Int32)) hx hb d_R_shZ_122 (by decide) ?_
      refine lv_iload_n hx hb d_R_shZ_123 rfl (lv_at hl 0 rfl) ?_
      refine lv_imul hx hb d_R_shZ_124 ?_
      refine lv_i2l hx hb d_R_shZ_125 rfl ?_
      refine lv_aload_n hx hb d_R_shZ_126 rfl (lv_at hl 1 rfl) ?_
      refine va_get (D := D) (ci := 1) (v := .long ra) (C := R_Reducer) (T := F_Reducer) (N := 7) hx hb htg i_Reducer hown hK hP 0 rfl rfl 0 (by decide) (htg _ tm_56) (fun _ h9 => h9) rfl d_R_shZ_127 ?_
      refine lv_lmul hx hb d_R_shZ_130 ?_
      refine lv_lsub hx hb d_R_shZ_131 ?_
      refine va_put (D := D) (ci := 1) (v := .long (rz - ((((2 : Int32) * (-1 : Int32)).toInt64) * ra))) (ty := .long) (C := R_Reducer) (T := F_Reducer) (N := 7) hx hb htg i_Reducer t_Reducer t_Reducer_ok n_Reducer hown hK hP hD hS 0 rfl rfl 5 (by decide) (htg _ tm_61) (fun _ h9 => h9) rfl (by decide +kernel) rfl rfl (Nat.le_of_ble_eq_true rfl) d_R_shZ_132 (fun H locs hP hD hS => ?_)
      have hP : va_P D classes ([(h0, .inr (1, [.long ra, .long ((ra + rb) - (((-1 : Int32).toInt64) * rz)), .long rc, .long (rx - (((-1 : Int32).toInt64) * ry)), .long ry, .long (rz - ((((2 : Int32) * (-1 : Int32)).toInt64) * ra)), .int rs]))] ++ wt) H := hP
      have hD : va_D A ([(h0, .inr (1, [.long ra, .long ((ra + rb) - (((-1 : Int32).toInt64) * rz)), .long rc, .long (rx - (((-1 : Int32).toInt64) * ry)), .long ry, .long (rz - ((((2 : Int32) * (-1 : Int32)).toInt64) * ra)), .int rs]))] ++ wt) := hD
      refine lv_iconst (v := (1 : Int32)) hx hb d_R_shZ_135 (by decide) ?_
      exact W.zret (v := (1 : Int32)) (ty := .boolean) hx hb hr rfl (fun t ht hW => ⟨⟨(1 : Int32), (ra, (ra + rb) - (((-1 : Int32).toInt64) * rz), rc, rx - (((-1 : Int32).toInt64) * ry), ry, rz - ((((2 : Int32) * (-1 : Int32)).toInt64) * ra), rs), rfl, h, by rw [ht]; exact hP, hD⟩, hS.F ht⟩) hS.2.2 d_R_shZ_136
    · rw [if_neg c_2] at h
      refine lv_iconst (v := (1 : Int32)) hx hb d_R_shZ_74 (by decide) ?_
      refine lv_goto (tgt := 79) hx hb d_R_shZ_75 (by decide) ?_
      refine lv_istore_n (lv' := [(1, .int (1 : Int32)), (0, .ref h0)]) hx hb d_R_shZ_79 rfl hl (by decide) rfl (fun ls hl => ?_)
      refine lv_aload_n hx hb d_R_shZ_80 rfl (lv_at hl 1 rfl) ?_
      refine lv_aload_n hx hb d_R_shZ_81 rfl (lv_at hl 1 rfl) ?_
      refine va_get (D := D) (ci := 1) (v := .long ra) (C := R_Reducer) (T := F_Reducer) (N := 7) hx hb htg i_Reducer hown hK hP 0 rfl rfl 0 (by decide) (htg _ tm_56) (fun _ h9 => h9) rfl d_R_shZ_82 ?_
      refine lv_aload_n hx hb d_R_shZ_85 rfl (lv_at hl 1 rfl) ?_
      refine va_get (D := D) (ci := 1) (v := .long rb) (C := R_Reducer) (T := F_Reducer) (N := 7) hx hb htg i_Reducer hown hK hP 0 rfl rfl 1 (by decide) (htg _ tm_57) (fun _ h9 => h9) rfl d_R_shZ_86 ?_
      refine lv_ladd hx hb d_R_shZ_89 ?_
      refine lv_iload_n hx hb d_R_shZ_90 rfl (lv_at hl 0 rfl) ?_
      refine lv_i2l hx hb d_R_shZ_91 rfl ?_
      refine lv_aload_n hx hb d_R_shZ_92 rfl (lv_at hl 1 rfl) ?_
      refine va_get (D := D) (ci := 1) (v := .long rz) (C := R_Reducer) (T := F_Reducer) (N := 7) hx hb htg i_Reducer hown hK hP 0 rfl rfl 5 (by decide) (htg _ tm_61) (fun _ h9 => h9) rfl d_R_shZ_93 ?_
      refine lv_lmul hx hb d_R_shZ_96 ?_
      refine lv_lsub hx hb d_R_shZ_97 ?_
      refine va_put (D := D) (ci := 1) (v := .long ((ra + rb) - (((1 : Int32).toInt64) * rz))) (ty := .long) (C := R_Reducer) (T := F_Reducer) (N := 7) hx hb htg i_Reducer t_Reducer t_Reducer_ok n_Reducer hown hK hP hD hS 0 rfl rfl 1 (by decide) (htg _ tm_57) (fun _ h9 => h9) rfl (by decide +kernel) rfl rfl (Nat.le_of_ble_eq_true rfl) d_R_shZ_98 (fun H locs hP hD hS => ?_)
      have hP : va_P D classes ([(h0, .inr (1, [.long ra, .long ((ra + rb) - (((1 : Int32).toInt64) * rz)), .long rc, .long rx, .long ry, .long rz, .int rs]))] ++ wt) H := hP
      have hD : va_D A ([(h0, .inr (1, [.long ra, .long ((ra + rb) - (((1 : Int32).toInt64) * rz)), .long rc, .long rx, .long ry, .long rz, .int rs]))] ++ wt) := hD
      refine lv_aload_n hx hb d_R_shZ_101 rfl (lv_at hl 1 rfl) ?_
      refine lv_aload_n hx hb d_R_shZ_102 rfl (lv_at hl 1 rfl) ?_
      refine va_get (D := D) (ci := 1) (v := .long rx) (C := R_Reducer) (T := F_Reducer) (N := 7) hx hb htg i_Reducer hown hK hP 0 rfl rfl 3 (by decide) (htg _ tm_59) (fun _ h9 => h9) rfl d_R_shZ_103 ?_
      refine lv_iload_n hx hb d_R_shZ_106 rfl (lv_at hl 0 rfl) ?_
      refine lv_i2l hx hb d_R_shZ_107 rfl ?_
      refine lv_aload_n hx hb d_R_shZ_108 rfl (lv_at hl 1 rfl) ?_
      refine va_get (D := D) (ci := 1) (v := .long ry) (C := R_Reducer) (T := F_Reducer) (N := 7) hx hb htg i_Reducer hown hK hP 0 rfl rfl 4 (by decide) (htg _ tm_60) (fun _ h9 => h9) rfl d_R_shZ_109 ?_
      refine lv_lmul hx hb d_R_shZ_112 ?_
      refine lv_lsub hx hb d_R_shZ_113 ?_
      refine va_put (D := D) (ci := 1) (v := .long (rx - (((1 : Int32).toInt64) * ry))) (ty := .long) (C := R_Reducer) (T := F_Reducer) (N := 7) hx hb htg i_Reducer t_Reducer t_Reducer_ok n_Reducer hown hK hP hD hS 0 rfl rfl 3 (by decide) (htg _ tm_59) (fun _ h9 => h9) rfl (by decide +kernel) rfl rfl (Nat.le_of_ble_eq_true rfl) d_R_shZ_114 (fun H locs hP hD hS => ?_)
      have hP : va_P D classes ([(h0, .inr (1, [.long ra, .long ((ra + rb) - (((1 : Int32).toInt64) * rz)), .long rc, .long (rx - (((1 : Int32).toInt64) * ry)), .long ry, .long rz, .int rs]))] ++ wt) H := hP
      have hD : va_D A ([(h0, .inr (1, [.long ra, .long ((ra + rb) - (((1 : Int32).toInt64) * rz)), .long rc, .long (rx - (((1 : Int32).toInt64) * ry)), .long ry, .long rz, .int rs]))] ++ wt) := hD
      refine lv_aload_n hx hb d_R_shZ_117 rfl (lv_at hl 1 rfl) ?_
      refine lv_aload_n hx hb d_R_shZ_118 rfl (lv_at hl 1 rfl) ?_
      refine va_get (D := D) (ci := 1) (v := .long rz) (C := R_Reducer) (T := F_Reducer) (N := 7) hx hb htg i_Reducer hown hK hP 0 rfl rfl 5 (by decide) (htg _ tm_61) (fun _ h9 => h9) rfl d_R_shZ_119 ?_
      refine lv_iconst (v := (2 : Int32)) hx hb d_R_shZ_122 (by decide) ?_
      refine lv_iload_n hx hb d_R_shZ_123 rfl (lv_at hl 0 rfl) ?_
      refine lv_imul hx hb d_R_shZ_124 ?_
      refine lv_i2l hx hb d_R_shZ_125 rfl ?_
      refine lv_aload_n hx hb d_R_shZ_126 rfl (lv_at hl 1 rfl) ?_
      refine va_get (D := D) (ci := 1) (v := .long ra) (C := R_Reducer) (T := F_Reducer) (N := 7) hx hb htg i_Reducer hown hK hP 0 rfl rfl 0 (by decide) (htg _ tm_56) (fun _ h9 => h9) rfl d_R_shZ_127 ?_
      refine lv_lmul hx hb d_R_shZ_130 ?_
      refine lv_lsub hx hb d_R_shZ_131 ?_
      refine va_put (D := D) (ci := 1) (v := .long (rz - ((((2 : Int32) * (1 : Int32)).toInt64) * ra))) (ty := .long) (C := R_Reducer) (T := F_Reducer) (N := 7) hx hb htg i_Reducer t_Reducer t_Reducer_ok n_Reducer hown hK hP hD hS 0 rfl rfl 5 (by decide) (htg _ tm_61) (fun _ h9 => h9) rfl (by decide +kernel) rfl rfl (Nat.le_of_ble_eq_true rfl) d_R_shZ_132 (fun H locs hP hD hS => ?_)
      have hP : va_P D classes ([(h0, .inr (1, [.long ra, .long ((ra + rb) - (((1 : Int32).toInt64) * rz)), .long rc, .long (rx - (((1 : Int32).toInt64) * ry)), .long ry, .long (rz - ((((2 : Int32) * (1 : Int32)).toInt64) * ra)), .int rs]))] ++ wt) H := hP
      have hD : va_D A ([(h0, .inr (1, [.long ra, .long ((ra + rb) - (((1 : Int32).toInt64) * rz)), .long rc, .long (rx - (((1 : Int32).toInt64) * ry)), .long ry, .long (rz - ((((2 : Int32) * (1 : Int32)).toInt64) * ra)), .int rs]))] ++ wt) := hD
      refine lv_iconst (v := (1 : Int32)) hx hb d_R_shZ_135 (by decide) ?_
      exact W.zret (v := (1 : Int32)) (ty := .boolean) hx hb hr rfl (fun t ht hW => ⟨⟨(1 : Int32), (ra, (ra + rb) - (((1 : Int32).toInt64) * rz), rc, rx - (((1 : Int32).toInt64) * ry), ry, rz - ((((2 : Int32) * (1 : Int32)).toInt64) * ra), rs), rfl, h, by rw [ht]; exact hP, hD⟩, hS.F ht⟩) hS.2.2 d_R_shZ_136
  · rw [if_neg c_1] at h
    refine lv_aload_n hx hb d_R_shZ_15 rfl (lv_at hl 0 rfl) ?_
    refine va_get (D := D) (ci := 1) (v := .long rz) (C := R_Reducer) (T := F_Reducer) (N := 7) hx hb htg i_Reducer hown hK hP 0 rfl rfl 5 (by decide) (htg _ tm_61) (fun _ h9 => h9) rfl d_R_shZ_16 ?_
    refine lv_aload_n hx hb d_R_shZ_19 rfl (lv_at hl 0 rfl) ?_
    refine va_get (D := D) (ci := 1) (v := .long ra) (C := R_Reducer) (T := F_Reducer) (N := 7) hx hb htg i_Reducer hown hK hP 0 rfl rfl 0 (by decide) (htg _ tm_56) (fun _ h9 => h9) rfl d_R_shZ_20 ?_
    refine W.lcmp hx hb d_R_shZ_23 ?_
    refine lv_if_ne (tgt := 43) hx hb d_R_shZ_24 (by decide) (fun c_3 => ?_) (fun c_3 => ?_)
    · rw [if_neg c_3] at h
      refine lv_aload_n hx hb d_R_shZ_43 rfl (lv_at hl 0 rfl) ?_
      refine va_get (D := D) (ci := 1) (v := .long rz) (C := R_Reducer) (T := F_Reducer) (N := 7) hx hb htg i_Reducer hown hK hP 0 rfl rfl 5 (by decide) (htg _ tm_61) (fun _ h9 => h9) rfl d_R_shZ_44 ?_
      refine lv_aload_n hx hb d_R_shZ_47 rfl (lv_at hl 0 rfl) ?_
      refine va_get (D := D) (ci := 1) (v := .long ra) (C := R_Reducer) (T := F_Reducer) (N := 7) hx hb htg i_Reducer hown hK hP 0 rfl rfl 0 (by decide) (htg _ tm_56) (fun _ h9 => h9) rfl d_R_shZ_48 ?_
      refine lv_lneg hx hb d_R_shZ_51 ?_
      refine W.lcmp hx hb d_R_shZ_52 ?_
      refine lv_if_ne (tgt := 137) hx hb d_R_shZ_53 (by decide) (fun c_4 => ?_) (fun c_4 => ?_)
      · rw [if_neg c_4] at h
        refine lv_iconst (v := (0 : Int32)) hx hb d_R_shZ_137 (by decide) ?_
        exact W.zret (v := (0 : Int32)) (ty := .boolean) hx hb hr rfl (fun t ht hW => ⟨⟨(0 : Int32), (ra, rb, rc, rx, ry, rz, rs), rfl, h, by rw [ht]; exact hP, hD⟩, hS.F ht⟩) hS.2.2 d_R_shZ_138
      · rw [if_pos c_4] at h
        refine lv_aload_n hx hb d_R_shZ_56 rfl (lv_at hl 0 rfl) ?_
        refine va_get (D := D) (ci := 1) (v := .long ry) (C := R_Reducer) (T := F_Reducer) (N := 7) hx hb htg i_Reducer hown hK hP 0 rfl rfl 4 (by decide) (htg _ tm_60) (fun _ h9 => h9) rfl d_R_shZ_57 ?_
        refine lv_lconst (v := (0 : Int64)) hx hb d_R_shZ_60 (by decide) ?_
        refine W.lcmp hx hb d_R_shZ_61 ?_
        refine lv_if_ge (tgt := 137) hx hb d_R_shZ_62 (by decide) (fun c_5 => ?_) (fun c_5 => ?_)
        · rw [if_pos c_5] at h
          refine lv_iconst (v := (0 : Int32)) hx hb d_R_shZ_137 (by decide) ?_
          exact W.zret (v := (0 : Int32)) (ty := .boolean) hx hb hr rfl (fun t ht hW => ⟨⟨(0 : Int32), (ra, rb, rc, rx, ry, rz, rs), rfl, h, by rw [ht]; exact hP, hD⟩, hS.F ht⟩) hS.2.2 d_R_shZ_138
        · rw [if_neg c_5] at h
          refine lv_aload_n hx hb d_R_shZ_65 rfl (lv_at hl 0 rfl) ?_
          refine va_get (D := D) (ci := 1) (v := .long rz) (C := R_Reducer) (T := F_Reducer) (N := 7) hx hb htg i_Reducer hown hK hP 0 rfl rfl 5 (by decide) (htg _ tm_61) (fun _ h9 => h9) rfl d_R_shZ_66 ?_
          refine lv_lconst (v := (0 : Int64)) hx hb d_R_shZ_69 (by decide) ?_
          refine W.lcmp hx hb d_R_shZ_70 ?_
          refine lv_if_le (tgt := 78) hx hb d_R_shZ_71 (by decide) (fun c_6 => ?_) (fun c_6 => ?_)
          · rw [if_pos c_6] at h
            refine lv_iconst (v := (-1 : Int32)) hx hb d_R_shZ_78 (by decide) ?_
            refine lv_istore_n (lv' := [(1, .int (-1 : Int32)), (0, .ref h0)]) hx hb d_R_shZ_79 rfl hl (by decide) rfl (fun ls hl => ?_)
            refine lv_aload_n hx hb d_R_shZ_80 rfl (lv_at hl 1 rfl) ?_
            refine lv_aload_n hx hb d_R_shZ_81 rfl (lv_at hl 1 rfl) ?_
            refine va_get (D := D) (ci := 1) (v := .long ra) (C := R_Reducer) (T := F_Reducer) (N := 7) hx hb htg i_Reducer hown hK hP 0 rfl rfl 0 (by decide) (htg _ tm_56) (fun _ h9 => h9) rfl d_R_shZ_82 ?_
            refine lv_aload_n hx hb d_R_shZ_85 rfl (lv_at hl 1 rfl) ?_
            refine va_get (D := D) (ci := 1) (v := .long rb) (C := R_Reducer) (T := F_Reducer) (N := 7) hx hb htg i_Reducer hown hK hP 0 rfl rfl 1 (by decide) (htg _ tm_57) (fun _ h9 => h9) rfl d_R_shZ_86 ?_
            refine lv_ladd hx hb d_R_shZ_89 ?_
            refine lv_iload_n hx hb d_R_shZ_90 rfl (lv_at hl 0 rfl) ?_
            refine lv_i2l hx hb d_R_shZ_91 rfl ?_
            refine lv_aload_n hx hb d_R_shZ_92 rfl (lv_at hl 1 rfl) ?_
            refine va_get (D := D) (ci := 1) (v := .long rz) (C := R_Reducer) (T := F_Reducer) (N := 7) hx hb htg i_Reducer hown hK hP 0 rfl rfl 5 (by decide) (htg _ tm_61) (fun _ h9 => h9) rfl d_R_shZ_93 ?_
            refine lv_lmul hx hb d_R_shZ_96 ?_
            refine lv_lsub hx hb d_R_shZ_97 ?_
            refine va_put (D := D) (ci := 1) (v := .long ((ra + rb) - (((-1 : Int32).toInt64) * rz))) (ty := .long) (C := R_Reducer) (T := F_Reducer) (N := 7) hx hb htg i_Reducer t_Reducer t_Reducer_ok n_Reducer hown hK hP hD hS 0 rfl rfl 1 (by decide) (htg _ tm_57) (fun _ h9 => h9) rfl (by decide +kernel) rfl rfl (Nat.le_of_ble_eq_true rfl) d_R_shZ_98 (fun H locs hP hD hS => ?_)
            have hP : va_P D classes ([(h0, .inr (1, [.long ra, .long ((ra + rb) - (((-1 : Int32).toInt64) * rz)), .long rc, .long rx, .long ry, .long rz, .int rs]))] ++ wt) H := hP
            have hD : va_D A ([(h0, .inr (1, [.long ra, .long ((ra + rb) - (((-1 : Int32).toInt64) * rz)), .long rc, .long rx, .long ry, .long rz, .int rs]))] ++ wt) := hD
            refine lv_aload_n hx hb d_R_shZ_101 rfl (lv_at hl 1 rfl) ?_
            refine lv_aload_n hx hb d_R_shZ_102 rfl (lv_at hl 1 rfl) ?_
            refine va_get (D := D) (ci := 1) (v := .long rx) (C := R_Reducer) (T := F_Reducer) (N := 7) hx hb htg i_Reducer hown hK hP 0 rfl rfl 3 (by decide) (htg _ tm_59) (fun _ h9 => h9) rfl d_R_shZ_103 ?_
            refine lv_iload_n hx hb d_R_shZ_106 rfl (lv_at hl 0 rfl) ?_
            refine lv_i2l hx hb d_R_shZ_107 rfl ?_
            refine lv_aload_n hx hb d_R_shZ_108 rfl (lv_at hl 1 rfl) ?_
            refine va_get (D := D) (ci := 1) (v := .long ry) (C := R_Reducer) (T := F_Reducer) (N := 7) hx hb htg i_Reducer hown hK hP 0 rfl rfl 4 (by decide) (htg _ tm_60) (fun _ h9 => h9) rfl d_R_shZ_109 ?_
            refine lv_lmul hx hb d_R_shZ_112 ?_
            refine lv_lsub hx hb d_R_shZ_113 ?_
            refine va_put (D := D) (ci := 1) (v := .long (rx - (((-1 : Int32).toInt64) * ry))) (ty := .long) (C := R_Reducer) (T := F_Reducer) (N := 7) hx hb htg i_Reducer t_Reducer t_Reducer_ok n_Reducer hown hK hP hD hS 0 rfl rfl 3 (by decide) (htg _ tm_59) (fun _ h9 => h9) rfl (by decide +kernel) rfl rfl (Nat.le_of_ble_eq_true rfl) d_R_shZ_114 (fun H locs hP hD hS => ?_)
            have hP : va_P D classes ([(h0, .inr (1, [.long ra, .long ((ra + rb) - (((-1 : Int32).toInt64) * rz)), .long rc, .long (rx - (((-1 : Int32).toInt64) * ry)), .long ry, .long rz, .int rs]))] ++ wt) H := hP
            have hD : va_D A ([(h0, .inr (1, [.long ra, .long ((ra + rb) - (((-1 : Int32).toInt64) * rz)), .long rc, .long (rx - (((-1 : Int32).toInt64) * ry)), .long ry, .long rz, .int rs]))] ++ wt) := hD
            refine lv_aload_n hx hb d_R_shZ_117 rfl (lv_at hl 1 rfl) ?_
            refine lv_aload_n hx hb d_R_shZ_118 rfl (lv_at hl 1 rfl) ?_
            refine va_get (D := D) (ci := 1) (v := .long rz) (C := R_Reducer) (T := F_Reducer) (N := 7) hx hb htg i_Reducer hown hK hP 0 rfl rfl 5 (by decide) (htg _ tm_61) (fun _ h9 => h9) rfl d_R_shZ_119 ?_
            refine lv_iconst (v := (2 : Int32)) hx hb d_R_shZ_122 (by decide) ?_
            refine lv_iload_n hx hb d_R_shZ_123 rfl (lv_at hl 0 rfl) ?_
            refine lv_imul hx hb d_R_shZ_124 ?_
            refine lv_i2l hx hb d_R_shZ_125 rfl ?_
            refine lv_aload_n hx hb d_R_shZ_126 rfl (lv_at hl 1 rfl) ?_
            refine va_get (D := D) (ci := 1) (v := .long ra) (C := R_Reducer) (T := F_Reducer) (N := 7) hx hb htg i_Reducer hown hK hP 0 rfl rfl 0 (by decide) (htg _ tm_56) (fun _ h9 => h9) rfl d_R_shZ_127 ?_
            refine lv_lmul hx hb d_R_shZ_130 ?_
            refine lv_lsub hx hb d_R_shZ_131 ?_
            refine va_put (D := D) (ci := 1) (v := .long (rz - ((((2 : Int32) * (-1 : Int32)).toInt64) * ra))) (ty := .long) (C := R_Reducer) (T := F_Reducer) (N := 7) hx hb htg i_Reducer t_Reducer t_Reducer_ok n_Reducer hown hK hP hD hS 0 rfl rfl 5 (by decide) (htg _ tm_61) (fun _ h9 => h9) rfl (by decide +kernel) rfl rfl (Nat.le_of_ble_eq_true rfl) d_R_shZ_132 (fun H locs hP hD hS => ?_)
            have hP : va_P D classes ([(h0, .inr (1, [.long ra, .long ((ra + rb) - (((-1 : Int32).toInt64) * rz)), .long rc, .long (rx - (((-1 : Int32).toInt64) * ry)), .long ry, .long (rz - ((((2 : Int32) * (-1 : Int32)).toInt64) * ra)), .int rs]))] ++ wt) H := hP
            have hD : va_D A ([(h0, .inr (1, [.long ra, .long ((ra + rb) - (((-1 : Int32).toInt64) * rz)), .long rc, .long (rx - (((-1 : Int32).toInt64) * ry)), .long ry, .long (rz - ((((2 : Int32) * (-1 : Int32)).toInt64) * ra)), .int rs]))] ++ wt) := hD
            refine lv_iconst (v := (1 : Int32)) hx hb d_R_shZ_135 (by decide) ?_
            exact W.zret (v := (1 : Int32)) (ty := .boolean) hx hb hr rfl (fun t ht hW => ⟨⟨(1 : Int32), (ra, (ra + rb) - (((-1 : Int32).toInt64) * rz), rc, rx - (((-1 : Int32).toInt64) * ry), ry, rz - ((((2 : Int32) * (-1 : Int32)).toInt64) * ra), rs), rfl, h, by rw [ht]; exact hP, hD⟩, hS.F ht⟩) hS.2.2 d_R_shZ_136
          · rw [if_neg c_6] at h
            refine lv_iconst (v := (1 : Int32)) hx hb d_R_shZ_74 (by decide) ?_
            refine lv_goto (tgt := 79) hx hb d_R_shZ_75 (by decide) ?_
            refine lv_istore_n (lv' := [(1, .int (1 : Int32)), (0, .ref h0)]) hx hb d_R_shZ_79 rfl hl (by decide) rfl (fun ls hl => ?_)
            refine lv_aload_n hx hb d_R_shZ_80 rfl (lv_at hl 1 rfl) ?_
            refine lv_aload_n hx hb d_R_shZ_81 rfl (lv_at hl 1 rfl) ?_
            refine va_get (D := D) (ci := 1) (v := .long ra) (C := R_Reducer) (T := F_Reducer) (N := 7) hx hb htg i_Reducer hown hK hP 0 rfl rfl 0 (by decide) (htg _ tm_56) (fun _ h9 => h9) rfl d_R_shZ_82 ?_
            refine lv_aload_n hx hb d_R_shZ_85 rfl (lv_at hl 1 rfl) ?_
            refine va_get (D := D) (ci := 1) (v := .long rb) (C := R_Reducer) (T := F_Reducer) (N := 7) hx hb htg i_Reducer hown hK hP 0 rfl rfl 1 (by decide) (htg _ tm_57) (fun _ h9 => h9) rfl d_R_shZ_86 ?_
            refine lv_ladd hx hb d_R_shZ_89 ?_
            refine lv_iload_n hx hb d_R_shZ_90 rfl (lv_at hl 0 rfl) ?_
            refine lv_i2l hx hb d_R_shZ_91 rfl ?_
            refine lv_aload_n hx hb d_R_shZ_92 rfl (lv_at hl 1 rfl) ?_
            refine va_get (D := D) (ci := 1) (v := .long rz) (C := R_Reducer) (T := F_Reducer) (N := 7) hx hb htg i_Reducer hown hK hP 0 rfl rfl 5 (by decide) (htg _ tm_61) (fun _ h9 => h9) rfl d_R_shZ_93 ?_
            refine lv_lmul hx hb d_R_shZ_96 ?_
            refine lv_lsub hx hb d_R_shZ_97 ?_
            refine va_put (D := D) (ci := 1) (v := .long ((ra + rb) - (((1 : Int32).toInt64) * rz))) (ty := .long) (C := R_Reducer) (T := F_Reducer) (N := 7) hx hb htg i_Reducer t_Reducer t_Reducer_ok n_Reducer hown hK hP hD hS 0 rfl rfl 1 (by decide) (htg _ tm_57) (fun _ h9 => h9) rfl (by decide +kernel) rfl rfl (Nat.le_of_ble_eq_true rfl) d_R_shZ_98 (fun H locs hP hD hS => ?_)
            have hP : va_P D classes ([(h0, .inr (1, [.long ra, .long ((ra + rb) - (((1 : Int32).toInt64) * rz)), .long rc, .long rx, .long ry, .long rz, .int rs]))] ++ wt) H := hP
            have hD : va_D A ([(h0, .inr (1, [.long ra, .long ((ra + rb) - (((1 : Int32).toInt64) * rz)), .long rc, .long rx, .long ry, .long rz, .int rs]))] ++ wt) := hD
            refine lv_aload_n hx hb d_R_shZ_101 rfl (lv_at hl 1 rfl) ?_
            refine lv_aload_n hx hb d_R_shZ_102 rfl (lv_at hl 1 rfl) ?_
            refine va_get (D := D) (ci := 1) (v := .long rx) (C := R_Reducer) (T := F_Reducer) (N := 7) hx hb htg i_Reducer hown hK hP 0 rfl rfl 3 (by decide) (htg _ tm_59) (fun _ h9 => h9) rfl d_R_shZ_103 ?_
            refine lv_iload_n hx hb d_R_shZ_106 rfl (lv_at hl 0 rfl) ?_
            refine lv_i2l hx hb d_R_shZ_107 rfl ?_
            refine lv_aload_n hx hb d_R_shZ_108 rfl (lv_at hl 1 rfl) ?_
            refine va_get (D := D) (ci := 1) (v := .long ry) (C := R_Reducer) (T := F_Reducer) (N := 7) hx hb htg i_Reducer hown hK hP 0 rfl rfl 4 (by decide) (htg _ tm_60) (fun _ h9 => h9) rfl d_R_shZ_109 ?_
            refine lv_lmul hx hb d_R_shZ_112 ?_
            refine lv_lsub hx hb d_R_shZ_113 ?_
            refine va_put (D := D) (ci := 1) (v := .long (rx - (((1 : Int32).toInt64) * ry))) (ty := .long) (C := R_Reducer) (T := F_Reducer) (N := 7) hx hb htg i_Reducer t_Reducer t_Reducer_ok n_Reducer hown hK hP hD hS 0 rfl rfl 3 (by decide) (htg _ tm_59) (fun _ h9 => h9) rfl (by decide +kernel) rfl rfl (Nat.le_of_ble_eq_true rfl) d_R_shZ_114 (fun H locs hP hD hS => ?_)
            have hP : va_P D classes ([(h0, .inr (1, [.long ra, .long ((ra + rb) - (((1 : Int32).toInt64) * rz)), .long rc, .long (rx - (((1 : Int32).toInt64) * ry)), .long ry, .long rz, .int rs]))] ++ wt) H := hP
            have hD : va_D A ([(h0, .inr (1, [.long ra, .long ((ra + rb) - (((1 : Int32).toInt64) * rz)), .long rc, .long (rx - (((1 : Int32).toInt64) * ry)), .long ry, .long rz, .int rs]))] ++ wt) := hD
            refine lv_aload_n hx hb d_R_shZ_117 rfl (lv_at hl 1 rfl) ?_
            refine lv_aload_n hx hb d_R_shZ_118 rfl (lv_at hl 1 rfl) ?_
            refine va_get (D := D) (ci := 1) (v := .long rz) (C := R_Reducer) (T := F_Reducer) (N := 7) hx hb htg i_Reducer hown hK hP 0 rfl rfl 5 (by decide) (htg _ tm_61) (fun _ h9 => h9) rfl d_R_shZ_119 ?_
            refine lv_iconst (v := (2 : Int32)) hx hb d_R_shZ_122 (by decide) ?_
            refine lv_iload_n hx hb d_R_shZ_123 rfl (lv_at hl 0 rfl) ?_
            refine lv_imul hx hb d_R_shZ_124 ?_
            refine lv_i2l hx hb d_R_shZ_125 rfl ?_
            refine lv_aload_n hx hb d_R_shZ_126 rfl (lv_at hl 1 rfl) ?_
            refine va_get (D := D) (ci := 1) (v := .long ra) (C := R_Reducer) (T := F_Reducer) (N := 7) hx hb htg i_Reducer hown hK hP 0 rfl rfl 0 (by decide) (htg _ tm_56) (fun _ h9 => h9) rfl d_R_shZ_127 ?_
            refine lv_lmul hx hb d_R_shZ_130 ?_
            refine lv_lsub hx hb d_R_shZ_131 ?_
            refine va_put (D := D) (ci := 1) (v := .long (rz - ((((2 : Int32) * (1 : Int32)).toInt64) * ra))) (ty := .long) (C := R_Reducer) (T := F_Reducer) (N := 7) hx hb htg i_Reducer t_Reducer t_Reducer_ok n_Reducer hown hK hP hD hS 0 rfl rfl 5 (by decide) (htg _ tm_61) (fun _ h9 => h9) rfl (by decide +kernel) rfl rfl (Nat.le_of_ble_eq_true rfl) d_R_shZ_132 (fun H locs hP hD hS => ?_)
            have hP : va_P D classes ([(h0, .inr (1, [.long ra, .long ((ra + rb) - (((1 : Int32).toInt64) * rz)), .long rc, .long (rx - (((1 : Int32).toInt64) * ry)), .long ry, .long (rz - ((((2 : Int32) * (1 : Int32)).toInt64) * ra)), .int rs]))] ++ wt) H := hP
            have hD : va_D A ([(h0, .inr (1, [.long ra, .long ((ra + rb) - (((1 : Int32).toInt64) * rz)), .long rc, .long (rx - (((1 : Int32).toInt64) * ry)), .long ry, .long (rz - ((((2 : Int32) * (1 : Int32)).toInt64) * ra)), .int rs]))] ++ wt) := hD
            refine lv_iconst (v := (1 : Int32)) hx hb d_R_shZ_135 (by decide) ?_
            exact W.zret (v := (1 : Int32)) (ty := .boolean) hx hb hr rfl (fun t ht hW => ⟨⟨(1 : Int32), (ra, (ra + rb) - (((1 : Int32).toInt64) * rz), rc, rx - (((1 : Int32).toInt64) * ry), ry, rz - ((((2 : Int32) * (1 : Int32)).toInt64) * ra), rs), rfl, h, by rw [ht]; exact hP, hD⟩, hS.F ht⟩) hS.2.2 d_R_shZ_136
    · rw [if_pos c_3] at h
      refine lv_ldc2 (v := (2 : Int64)) hx hb hown (htg _ tm_178) d_R_shZ_27 ?_
      refine lv_aload_n hx hb d_R_shZ_30 rfl (lv_at hl 0 rfl) ?_
      refine va_get (D := D) (ci := 1) (v := .long rx) (C := R_Reducer) (T := F_Reducer) (N := 7) hx hb htg i_Reducer hown hK hP 0 rfl rfl 3 (by decide) (htg _ tm_59) (fun _ h9 => h9) rfl d_R_shZ_31 ?_
      refine lv_lmul hx hb d_R_shZ_34 ?_
      refine lv_aload_n hx hb d_R_shZ_35 rfl (lv_at hl 0 rfl) ?_
      refine va_get (D := D) (ci := 1) (v := .long ry) (C := R_Reducer) (T := F_Reducer) (N := 7) hx hb htg i_Reducer hown hK hP 0 rfl rfl 4 (by decide) (htg _ tm_60) (fun _ h9 => h9) rfl d_R_shZ_36 ?_
      refine W.lcmp hx hb d_R_shZ_39 ?_
      refine lv_if_lt (tgt := 65) hx hb d_R_shZ_40 (by decide) (fun c_7 => ?_) (fun c_7 => ?_)
      · rw [if_pos c_7] at h
        refine lv_aload_n hx hb d_R_shZ_65 rfl (lv_at hl 0 rfl) ?_
        refine va_get (D := D) (ci := 1) (v := .long rz) (C := R_Reducer) (T := F_Reducer) (N := 7) hx hb htg i_Reducer hown hK hP 0 rfl rfl 5 (by decide) (htg _ tm_61) (fun _ h9 => h9) rfl d_R_shZ_66 ?_
        refine lv_lconst (v := (0 : Int64)) hx hb d_R_shZ_69 (by decide) ?_
        refine W.lcmp hx hb d_R_shZ_70 ?_
        refine lv_if_le (tgt := 78) hx hb d_R_shZ_71 (by decide) (fun c_8 => ?_) (fun c_8 => ?_)
        · rw [if_pos c_8] at h
          refine lv_iconst (v := (-1 : Int32)) hx hb d_R_shZ_78 (by decide) ?_
          refine lv_istore_n (lv' := [(1, .int (-1 : Int32)), (0, .ref h0)]) hx hb d_R_shZ_79 rfl hl (by decide) rfl (fun ls hl => ?_)
          refine lv_aload_n hx hb d_R_shZ_80 rfl (lv_at hl 1 rfl) ?_
          refine lv_aload_n hx hb d_R_shZ_81 rfl (lv_at hl 1 rfl) ?_
          refine va_get (D := D) (ci := 1) (v := .long ra) (C := R_Reducer) (T := F_Reducer) (N := 7) hx hb htg i_Reducer hown hK hP 0 rfl rfl 0 (by decide) (htg _ tm_56) (fun _ h9 => h9) rfl d_R_shZ_82 ?_
          refine lv_aload_n hx hb d_R_shZ_85 rfl (lv_at hl 1 rfl) ?_
          refine va_get (D := D) (ci := 1) (v := .long rb) (C := R_Reducer) (T := F_Reducer) (N := 7) hx hb htg i_Reducer hown hK hP 0 rfl rfl 1 (by decide) (htg _ tm_57) (fun _ h9 => h9) rfl d_R_shZ_86 ?_
          refine lv_ladd hx hb d_R_shZ_89 ?_
          refine lv_iload_n hx hb d_R_shZ_90 rfl (lv_at hl 0 rfl) ?_
          refine lv_i2l hx hb d_R_shZ_91 rfl ?_
          refine lv_aload_n hx hb d_R_shZ_92 rfl (lv_at hl 1 rfl) ?_
          refine va_get (D := D) (ci := 1) (v := .long rz) (C := R_Reducer) (T := F_Reducer) (N := 7) hx hb htg i_Reducer hown hK hP 0 rfl rfl 5 (by decide) (htg _ tm_61) (fun _ h9 => h9) rfl d_R_shZ_93 ?_
          refine lv_lmul hx hb d_R_shZ_96 ?_
          refine lv_lsub hx hb d_R_shZ_97 ?_
          refine va_put (D := D) (ci := 1) (v := .long ((ra + rb) - (((-1 : Int32).toInt64) * rz))) (ty := .long) (C := R_Reducer) (T := F_Reducer) (N := 7) hx hb htg i_Reducer t_Reducer t_Reducer_ok n_Reducer hown hK hP hD hS 0 rfl rfl 1 (by decide) (htg _ tm_57) (fun _ h9 => h9) rfl (by decide +kernel) rfl rfl (Nat.le_of_ble_eq_true rfl) d_R_shZ_98 (fun H locs hP hD hS => ?_)
          have hP : va_P D classes ([(h0, .inr (1, [.long ra, .long ((ra + rb) - (((-1 : Int32).toInt64) * rz)), .long rc, .long rx, .long ry, .long rz, .int rs]))] ++ wt) H := hP
          have hD : va_D A ([(h0, .inr (1, [.long ra, .long ((ra + rb) - (((-1 : Int32).toInt64) * rz)), .long rc, .long rx, .long ry, .long rz, .int rs]))] ++ wt) := hD
          refine lv_aload_n hx hb d_R_shZ_101 rfl (lv_at hl 1 rfl) ?_
          refine lv_aload_n hx hb d_R_shZ_102 rfl (lv_at hl 1 rfl) ?_
          refine va_get (D := D) (ci := 1) (v := .long rx) (C := R_Reducer) (T := F_Reducer) (N := 7) hx hb htg i_Reducer hown hK hP 0 rfl rfl 3 (by decide) (htg _ tm_59) (fun _ h9 => h9) rfl d_R_shZ_103 ?_
          refine lv_iload_n hx hb d_R_shZ_106 rfl (lv_at hl 0 rfl) ?_
          refine lv_i2l hx hb d_R_shZ_107 rfl ?_
          refine lv_aload_n hx hb d_R_shZ_108 rfl (lv_at hl 1 rfl) ?_
          refine va_get (D := D) (ci := 1) (v := .long ry) (C := R_Reducer) (T := F_Reducer) (N := 7) hx hb htg i_Reducer hown hK hP 0 rfl rfl 4 (by decide) (htg _ tm_60) (fun _ h9 => h9) rfl d_R_shZ_109 ?_
          refine lv_lmul hx hb d_R_shZ_112 ?_
          refine lv_lsub hx hb d_R_shZ_113 ?_
          refine va_put (D := D) (ci := 1) (v := .long (rx - (((-1 : Int32).toInt64) * ry))) (ty := .long) (C := R_Reducer) (T := F_Reducer) (N := 7) hx hb htg i_Reducer t_Reducer t_Reducer_ok n_Reducer hown hK hP hD hS 0 rfl rfl 3 (by decide) (htg _ tm_59) (fun _ h9 => h9) rfl (by decide +kernel) rfl rfl (Nat.le_of_ble_eq_true rfl) d_R_shZ_114 (fun H locs hP hD hS => ?_)
          have hP : va_P D classes ([(h0, .inr (1, [.long ra, .long ((ra + rb) - (((-1 : Int32).toInt64) * rz)), .long rc, .long (rx - (((-1 : Int32).toInt64) * ry)), .long ry, .long rz, .int rs]))] ++ wt) H := hP
          have hD : va_D A ([(h0, .inr (1, [.long ra, .long ((ra + rb) - (((-1 : Int32).toInt64) * rz)), .long rc, .long (rx - (((-1 : Int32).toInt64) * ry)), .long ry, .long rz, .int rs]))] ++ wt) := hD
          refine lv_aload_n hx hb d_R_shZ_117 rfl (lv_at hl 1 rfl) ?_
          refine lv_aload_n hx hb d_R_shZ_118 rfl (lv_at hl 1 rfl) ?_
          refine va_get (D := D) (ci := 1) (v := .long rz) (C := R_Reducer) (T := F_Reducer) (N := 7) hx hb htg i_Reducer hown hK hP 0 rfl rfl 5 (by decide) (htg _ tm_61) (fun _ h9 => h9) rfl d_R_shZ_119 ?_
          refine lv_iconst (v := (2 : Int32)) hx hb d_R_shZ_122 (by decide) ?_
          refine lv_iload_n hx hb d_R_shZ_123 rfl (lv_at hl 0 rfl) ?_
          refine lv_imul hx hb d_R_shZ_124 ?_
          refine lv_i2l hx hb d_R_shZ_125 rfl ?_
          refine lv_aload_n hx hb d_R_shZ_126 rfl (lv_at hl 1 rfl) ?_
          refine va_get (D := D) (ci := 1) (v := .long ra) (C := R_Reducer) (T := F_Reducer) (N := 7) hx hb htg i_Reducer hown hK hP 0 rfl rfl 0 (by decide) (htg _ tm_56) (fun _ h9 => h9) rfl d_R_shZ_127 ?_
          refine lv_lmul hx hb d_R_shZ_130 ?_
          refine lv_lsub hx hb d_R_shZ_131 ?_
          refine va_put (D := D) (ci := 1) (v := .long (rz - ((((2 : Int32) * (-1 : Int32)).toInt64) * ra))) (ty := .long) (C := R_Reducer) (T := F_Reducer) (N := 7) hx hb htg i_Reducer t_Reducer t_Reducer_ok n_Reducer hown hK hP hD hS 0 rfl rfl 5 (by decide) (htg _ tm_61) (fun _ h9 => h9) rfl (by decide +kernel) rfl rfl (Nat.le_of_ble_eq_true rfl) d_R_shZ_132 (fun H locs hP hD hS => ?_)
          have hP : va_P D classes ([(h0, .inr (1, [.long ra, .long ((ra + rb) - (((-1 : Int32).toInt64) * rz)), .long rc, .long (rx - (((-1 : Int32).toInt64) * ry)), .long ry, .long (rz - ((((2 : Int32) * (-1 : Int32)).toInt64) * ra)), .int rs]))] ++ wt) H := hP
          have hD : va_D A ([(h0, .inr (1, [.long ra, .long ((ra + rb) - (((-1 : Int32).toInt64) * rz)), .long rc, .long (rx - (((-1 : Int32).toInt64) * ry)), .long ry, .long (rz - ((((2 : Int32) * (-1 : Int32)).toInt64) * ra)), .int rs]))] ++ wt) := hD
          refine lv_iconst (v := (1 : Int32)) hx hb d_R_shZ_135 (by decide) ?_
          exact W.zret (v := (1 : Int32)) (ty := .boolean) hx hb hr rfl (fun t ht hW => ⟨⟨(1 : Int32), (ra, (ra + rb) - (((-1 : Int32).toInt64) * rz), rc, rx - (((-1 : Int32).toInt64) * ry), ry, rz - ((((2 : Int32) * (-1 : Int32)).toInt64) * ra), rs), rfl, h, by rw [ht]; exact hP, hD⟩, hS.F ht⟩) hS.2.2 d_R_shZ_136
        · rw [if_neg c_8] at h
          refine lv_iconst (v := (1 : Int32)) hx hb d_R_shZ_74 (by decide) ?_
          refine lv_goto (tgt := 79) hx hb d_R_shZ_75 (by decide) ?_
          refine lv_istore_n (lv' := [(1, .int (1 : Int32)), (0, .ref h0)]) hx hb d_R_shZ_79 rfl hl (by decide) rfl (fun ls hl => ?_)
          refine lv_aload_n hx hb d_R_shZ_80 rfl (lv_at hl 1 rfl) ?_
          refine lv_aload_n hx hb d_R_shZ_81 rfl (lv_at hl 1 rfl) ?_
          refine va_get (D := D) (ci := 1) (v := .long ra) (C := R_Reducer) (T := F_Reducer) (N := 7) hx hb htg i_Reducer hown hK hP 0 rfl rfl 0 (by decide) (htg _ tm_56) (fun _ h9 => h9) rfl d_R_shZ_82 ?_
          refine lv_aload_n hx hb d_R_shZ_85 rfl (lv_at hl 1 rfl) ?_
          refine va_get (D := D) (ci := 1) (v := .long rb) (C := R_Reducer) (T := F_Reducer) (N := 7) hx hb htg i_Reducer hown hK hP 0 rfl rfl 1 (by decide) (htg _ tm_57) (fun _ h9 => h9) rfl d_R_shZ_86 ?_
          refine lv_ladd hx hb d_R_shZ_89 ?_
          refine lv_iload_n hx hb d_R_shZ_90 rfl (lv_at hl 0 rfl) ?_
          refine lv_i2l hx hb d_R_shZ_91 rfl ?_
          refine lv_aload_n hx hb d_R_shZ_92 rfl (lv_at hl 1 rfl) ?_
          refine va_get (D := D) (ci := 1) (v := .long rz) (C := R_Reducer) (T := F_Reducer) (N := 7) hx hb htg i_Reducer hown hK hP 0 rfl rfl 5 (by decide) (htg _ tm_61) (fun _ h9 => h9) rfl d_R_shZ_93 ?_
          refine lv_lmul hx hb d_R_shZ_96 ?_
          refine lv_lsub hx hb d_R_shZ_97 ?_
          refine va_put (D := D) (ci := 1) (v := .long ((ra + rb) - (((1 : Int32).toInt64) * rz))) (ty := .long) (C := R_Reducer) (T := F_Reducer) (N := 7) hx hb htg i_Reducer t_Reducer t_Reducer_ok n_Reducer hown hK hP hD hS 0 rfl rfl 1 (by decide) (htg _ tm_57) (fun _ h9 => h9) rfl (by decide +kernel) rfl rfl (Nat.le_of_ble_eq_true rfl) d_R_shZ_98 (fun H locs hP hD hS => ?_)
          have hP : va_P D classes ([(h0, .inr (1, [.long ra, .long ((ra + rb) - (((1 : Int32).toInt64) * rz)), .long rc, .long rx, .long ry, .long rz, .int rs]))] ++ wt) H := hP
          have hD : va_D A ([(h0, .inr (1, [.long ra, .long ((ra + rb) - (((1 : Int32).toInt64) * rz)), .long rc, .long rx, .long ry, .long rz, .int rs]))] ++ wt) := hD
          refine lv_aload_n hx hb d_R_shZ_101 rfl (lv_at hl 1 rfl) ?_
          refine lv_aload_n hx hb d_R_shZ_102 rfl (lv_at hl 1 rfl) ?_
          refine va_get (D := D) (ci := 1) (v := .long rx) (C := R_Reducer) (T := F_Reducer) (N := 7) hx hb htg i_Reducer hown hK hP 0 rfl rfl 3 (by decide) (htg _ tm_59) (fun _ h9 => h9) rfl d_R_shZ_103 ?_
          refine lv_iload_n hx hb d_R_shZ_106 rfl (lv_at hl 0 rfl) ?_
          refine lv_i2l hx hb d_R_shZ_107 rfl ?_
          refine lv_aload_n hx hb d_R_shZ_108 rfl (lv_at hl 1 rfl) ?_
          refine va_get (D := D) (ci := 1) (v := .long ry) (C := R_Reducer) (T := F_Reducer) (N := 7) hx hb htg i_Reducer hown hK hP 0 rfl rfl 4 (by decide) (htg _ tm_60) (fun _ h9 => h9) rfl d_R_shZ_109 ?_
          refine lv_lmul hx hb d_R_shZ_112 ?_
          refine lv_lsub hx hb d_R_shZ_113 ?_
          refine va_put (D := D) (ci := 1) (v := .long (rx - (((1 : Int32).toInt64) * ry))) (ty := .long) (C := R_Reducer) (T := F_Reducer) (N := 7) hx hb htg i_Reducer t_Reducer t_Reducer_ok n_Reducer hown hK hP hD hS 0 rfl rfl 3 (by decide) (htg _ tm_59) (fun _ h9 => h9) rfl (by decide +kernel) rfl rfl (Nat.le_of_ble_eq_true rfl) d_R_shZ_114 (fun H locs hP hD hS => ?_)
          have hP : va_P D classes ([(h0, .inr (1, [.long ra, .long ((ra + rb) - (((1 : Int32).toInt64) * rz)), .long rc, .long (rx - (((1 : Int32).toInt64) * ry)), .long ry, .long rz, .int rs]))] ++ wt) H := hP
          have hD : va_D A ([(h0, .inr (1, [.long ra, .long ((ra + rb) - (((1 : Int32).toInt64) * rz)), .long rc, .long (rx - (((1 : Int32).toInt64) * ry)), .long ry, .long rz, .int rs]))] ++ wt) := hD
          refine lv_aload_n hx hb d_R_shZ_117 rfl (lv_at hl 1 rfl) ?_
          refine lv_aload_n hx hb d_R_shZ_118 rfl (lv_at hl 1 rfl) ?_
          refine va_get (D := D) (ci := 1) (v := .long rz) (C := R_Reducer) (T := F_Reducer) (N := 7) hx hb htg i_Reducer hown hK hP 0 rfl rfl 5 (by decide) (htg _ tm_61) (fun _ h9 => h9) rfl d_R_shZ_119 ?_
          refine lv_iconst (v := (2 : Int32)) hx hb d_R_shZ_122 (by decide) ?_
          refine lv_iload_n hx hb d_R_shZ_123 rfl (lv_at hl 0 rfl) ?_
          refine lv_imul hx hb d_R_shZ_124 ?_
          refine lv_i2l hx hb d_R_shZ_125 rfl ?_
          refine lv_aload_n hx hb d_R_shZ_126 rfl (lv_at hl 1 rfl) ?_
          refine va_get (D := D) (ci := 1) (v := .long ra) (C := R_Reducer) (T := F_Reducer) (N := 7) hx hb htg i_Reducer hown hK hP 0 rfl rfl 0 (by decide) (htg _ tm_56) (fun _ h9 => h9) rfl d_R_shZ_127 ?_
          refine lv_lmul hx hb d_R_shZ_130 ?_
          refine lv_lsub hx hb d_R_shZ_131 ?_
          refine va_put (D := D) (ci := 1) (v := .long (rz - ((((2 : Int32) * (1 : Int32)).toInt64) * ra))) (ty := .long) (C := R_Reducer) (T := F_Reducer) (N := 7) hx hb htg i_Reducer t_Reducer t_Reducer_ok n_Reducer hown hK hP hD hS 0 rfl rfl 5 (by decide) (htg _ tm_61) (fun _ h9 => h9) rfl (by decide +kernel) rfl rfl (Nat.le_of_ble_eq_true rfl) d_R_shZ_132 (fun H locs hP hD hS => ?_)
          have hP : va_P D classes ([(h0, .inr (1, [.long ra, .long ((ra + rb) - (((1 : Int32).toInt64) * rz)), .long rc, .long (rx - (((1 : Int32).toInt64) * ry)), .long ry, .long (rz - ((((2 : Int32) * (1 : Int32)).toInt64) * ra)), .int rs]))] ++ wt) H := hP
          have hD : va_D A ([(h0, .inr (1, [.long ra, .long ((ra + rb) - (((1 : Int32).toInt64) * rz)), .long rc, .long (rx - (((1 : Int32).toInt64) * ry)), .long ry, .long (rz - ((((2 : Int32) * (1 : Int32)).toInt64) * ra)), .int rs]))] ++ wt) := hD
          refine lv_iconst (v := (1 : Int32)) hx hb d_R_shZ_135 (by decide) ?_
          exact W.zret (v := (1 : Int32)) (ty := .boolean) hx hb hr rfl (fun t ht hW => ⟨⟨(1 : Int32), (ra, (ra + rb) - (((1 : Int32).toInt64) * rz), rc, rx - (((1 : Int32).toInt64) * ry), ry, rz - ((((2 : Int32) * (1 : Int32)).toInt64) * ra), rs), rfl, h, by rw [ht]; exact hP, hD⟩, hS.F ht⟩) hS.2.2 d_R_shZ_136
      · rw [if_neg c_7] at h
        refine lv_aload_n hx hb d_R_shZ_43 rfl (lv_at hl 0 rfl) ?_
        refine va_get (D := D) (ci := 1) (v := .long rz) (C := R_Reducer) (T := F_Reducer) (N := 7) hx hb htg i_Reducer hown hK hP 0 rfl rfl 5 (by decide) (htg _ tm_61) (fun _ h9 => h9) rfl d_R_shZ_44 ?_
        refine lv_aload_n hx hb d_R_shZ_47 rfl (lv_at hl 0 rfl) ?_
        refine va_get (D := D) (ci := 1) (v := .long ra) (C := R_Reducer) (T := F_Reducer) (N := 7) hx hb htg i_Reducer hown hK hP 0 rfl rfl 0 (by decide) (htg _ tm_56) (fun _ h9 => h9) rfl d_R_shZ_48 ?_
        refine lv_lneg hx hb d_R_shZ_51 ?_
        refine W.lcmp hx hb d_R_shZ_52 ?_
        refine lv_if_ne (tgt := 137) hx hb d_R_shZ_53 (by decide) (fun c_9 => ?_) (fun c_9 => ?_)
        · rw [if_neg c_9] at h
          refine lv_iconst (v := (0 : Int32)) hx hb d_R_shZ_137 (by decide) ?_
          exact W.zret (v := (0 : Int32)) (ty := .boolean) hx hb hr rfl (fun t ht hW => ⟨⟨(0 : Int32), (ra, rb, rc, rx, ry, rz, rs), rfl, h, by rw [ht]; exact hP, hD⟩, hS.F ht⟩) hS.2.2 d_R_shZ_138
        · rw [if_pos c_9] at h
          refine lv_aload_n hx hb d_R_shZ_56 rfl (lv_at hl 0 rfl) ?_
          refine va_get (D := D) (ci := 1) (v := .long ry) (C := R_Reducer) (T := F_Reducer) (N := 7) hx hb htg i_Reducer hown hK hP 0 rfl rfl 4 (by decide) (htg _ tm_60) (fun _ h9 => h9) rfl d_R_shZ_57 ?_
          refine lv_lconst (v := (0 : Int64)) hx hb d_R_shZ_60 (by decide) ?_
          refine W.lcmp hx hb d_R_shZ_61 ?_
          refine lv_if_ge (tgt := 137) hx hb d_R_shZ_62 (by decide) (fun c_10 => ?_) (fun c_10 => ?_)
          · rw [if_pos c_10] at h
            refine lv_iconst (v := (0 : Int32)) hx hb d_R_shZ_137 (by decide) ?_
            exact W.zret (v := (0 : Int32)) (ty := .boolean) hx hb hr rfl (fun t ht hW => ⟨⟨(0 : Int32), (ra, rb, rc, rx, ry, rz, rs), rfl, h, by rw [ht]; exact hP, hD⟩, hS.F ht⟩) hS.2.2 d_R_shZ_138
          · rw [if_neg c_10] at h
            refine lv_aload_n hx hb d_R_shZ_65 rfl (lv_at hl 0 rfl) ?_
            refine va_get (D := D) (ci := 1) (v := .long rz) (C := R_Reducer) (T := F_Reducer) (N := 7) hx hb htg i_Reducer hown hK hP 0 rfl rfl 5 (by decide) (htg _ tm_61) (fun _ h9 => h9) rfl d_R_shZ_66 ?_
            refine lv_lconst (v := (0 : Int64)) hx hb d_R_shZ_69 (by decide) ?_
            refine W.lcmp hx hb d_R_shZ_70 ?_
            refine lv_if_le (tgt := 78) hx hb d_R_shZ_71 (by decide) (fun c_11 => ?_) (fun c_11 => ?_)
            · rw [if_pos c_11] at h
              refine lv_iconst (v := (-1 : Int32)) hx hb d_R_shZ_78 (by decide) ?_
              refine lv_istore_n (lv' := [(1, .int (-1 : Int32)), (0, .ref h0)]) hx hb d_R_shZ_79 rfl hl (by decide) rfl (fun ls hl => ?_)
              refine lv_aload_n hx hb d_R_shZ_80 rfl (lv_at hl 1 rfl) ?_
              refine lv_aload_n hx hb d_R_shZ_81 rfl (lv_at hl 1 rfl) ?_
              refine va_get (D := D) (ci := 1) (v := .long ra) (C := R_Reducer) (T := F_Reducer) (N := 7) hx hb htg i_Reducer hown hK hP 0 rfl rfl 0 (by decide) (htg _ tm_56) (fun _ h9 => h9) rfl d_R_shZ_82 ?_
              refine lv_aload_n hx hb d_R_shZ_85 rfl (lv_at hl 1 rfl) ?_
              refine va_get (D := D) (ci := 1) (v := .long rb) (C := R_Reducer) (T := F_Reducer) (N := 7) hx hb htg i_Reducer hown hK hP 0 rfl rfl 1 (by decide) (htg _ tm_57) (fun _ h9 => h9) rfl d_R_shZ_86 ?_
              refine lv_ladd hx hb d_R_shZ_89 ?_
              refine lv_iload_n hx hb d_R_shZ_90 rfl (lv_at hl 0 rfl) ?_
              refine lv_i2l hx hb d_R_shZ_91 rfl ?_
              refine lv_aload_n hx hb d_R_shZ_92 rfl (lv_at hl 1 rfl) ?_
              refine va_get (D := D) (ci := 1) (v := .long rz) (C := R_Reducer) (T := F_Reducer) (N := 7) hx hb htg i_Reducer hown hK hP 0 rfl rfl 5 (by decide) (htg _ tm_61) (fun _ h9 => h9) rfl d_R_shZ_93 ?_
              refine lv_lmul hx hb d_R_shZ_96 ?_
              refine lv_lsub hx hb d_R_shZ_97 ?_
              refine va_put (D := D) (ci := 1) (v := .long ((ra + rb) - (((-1 : Int32).toInt64) * rz))) (ty := .long) (C := R_Reducer) (T := F_Reducer) (N := 7) hx hb htg i_Reducer t_Reducer t_Reducer_ok n_Reducer hown hK hP hD hS 0 rfl rfl 1 (by decide) (htg _ tm_57) (fun _ h9 => h9) rfl (by decide +kernel) rfl rfl (Nat.le_of_ble_eq_true rfl) d_R_shZ_98 (fun H locs hP hD hS => ?_)
              have hP : va_P D classes ([(h0, .inr (1, [.long ra, .long ((ra + rb) - (((-1 : Int32).toInt64) * rz)), .long rc, .long rx, .long ry, .long rz, .int rs]))] ++ wt) H := hP
              have hD : va_D A ([(h0, .inr (1, [.long ra, .long ((ra + rb) - (((-1 : Int32).toInt64) * rz)), .long rc, .long rx, .long ry, .long rz, .int rs]))] ++ wt) := hD
              refine lv_aload_n hx hb d_R_shZ_101 rfl (lv_at hl 1 rfl) ?_
              refine lv_aload_n hx hb d_R_shZ_102 rfl (lv_at hl 1 rfl) ?_
              refine va_get (D := D) (ci := 1) (v := .long rx) (C := R_Reducer) (T := F_Reducer) (N := 7) hx hb htg i_Reducer hown hK hP 0 rfl rfl 3 (by decide) (htg _ tm_59) (fun _ h9 => h9) rfl d_R_shZ_103 ?_
              refine lv_iload_n hx hb d_R_shZ_106 rfl (lv_at hl 0 rfl) ?_
              refine lv_i2l hx hb d_R_shZ_107 rfl ?_
              refine lv_aload_n hx hb d_R_shZ_108 rfl (lv_at hl 1 rfl) ?_
              refine va_get (D := D) (ci := 1) (v := .long ry) (C := R_Reducer) (T := F_Reducer) (N := 7) hx hb htg i_Reducer hown hK hP 0 rfl rfl 4 (by decide) (htg _ tm_60) (fun _ h9 => h9) rfl d_R_shZ_109 ?_
              refine lv_lmul hx hb d_R_shZ_112 ?_
              refine lv_lsub hx hb d_R_shZ_113 ?_
              refine va_put (D := D) (ci := 1) (v := .long (rx - (((-1 : Int32).toInt64) * ry))) (ty := .long) (C := R_Reducer) (T := F_Reducer) (N := 7) hx hb htg i_Reducer t_Reducer t_Reducer_ok n_Reducer hown hK hP hD hS 0 rfl rfl 3 (by decide) (htg _ tm_59) (fun _ h9 => h9) rfl (by decide +kernel) rfl rfl (Nat.le_of_ble_eq_true rfl) d_R_shZ_114 (fun H locs hP hD hS => ?_)
              have hP : va_P D classes ([(h0, .inr (1, [.long ra, .long ((ra + rb) - (((-1 : Int32).toInt64) * rz)), .long rc, .long (rx - (((-1 : Int32).toInt64) * ry)), .long ry, .long rz, .int rs]))] ++ wt) H := hP
              have hD : va_D A ([(h0, .inr (1, [.long ra, .long ((ra + rb) - (((-1 : Int32).toInt64) * rz)), .long rc, .long (rx - (((-1 : Int32).toInt64) * ry)), .long ry, .long rz, .int rs]))] ++ wt) := hD
              refine lv_aload_n hx hb d_R_shZ_117 rfl (lv_at hl 1 rfl) ?_
              refine lv_aload_n hx hb d_R_shZ_118 rfl (lv_at hl 1 rfl) ?_
              refine va_get (D := D) (ci := 1) (v := .long rz) (C := R_Reducer) (T := F_Reducer) (N := 7) hx hb htg i_Reducer hown hK hP 0 rfl rfl 5 (by decide) (htg _ tm_61) (fun _ h9 => h9) rfl d_R_shZ_119 ?_
              refine lv_iconst (v := (2 : Int32)) hx hb d_R_shZ_122 (by decide) ?_
              refine lv_iload_n hx hb d_R_shZ_123 rfl (lv_at hl 0 rfl) ?_
              refine lv_imul hx hb d_R_shZ_124 ?_
              refine lv_i2l hx hb d_R_shZ_125 rfl ?_
              refine lv_aload_n hx hb d_R_shZ_126 rfl (lv_at hl 1 rfl) ?_
              refine va_get (D := D) (ci := 1) (v := .long ra) (C := R_Reducer) (T := F_Reducer) (N := 7) hx hb htg i_Reducer hown hK hP 0 rfl rfl 0 (by decide) (htg _ tm_56) (fun _ h9 => h9) rfl d_R_shZ_127 ?_
              refine lv_lmul hx hb d_R_shZ_130 ?_
              refine lv_lsub hx hb d_R_shZ_131 ?_
              refine va_put (D := D) (ci := 1) (v := .long (rz - ((((2 : Int32) * (-1 : Int32)).toInt64) * ra))) (ty := .long) (C := R_Reducer) (T := F_Reducer) (N := 7) hx hb htg i_Reducer t_Reducer t_Reducer_ok n_Reducer hown hK hP hD hS 0 rfl rfl 5 (by decide) (htg _ tm_61) (fun _ h9 => h9) rfl (by decide +kernel) rfl rfl (Nat.le_of_ble_eq_true rfl) d_R_shZ_132 (fun H locs hP hD hS => ?_)
              have hP : va_P D classes ([(h0, .inr (1, [.long ra, .long ((ra + rb) - (((-1 : Int32).toInt64) * rz)), .long rc, .long (rx - (((-1 : Int32).toInt64) * ry)), .long ry, .long (rz - ((((2 : Int32) * (-1 : Int32)).toInt64) * ra)), .int rs]))] ++ wt) H := hP
              have hD : va_D A ([(h0, .inr (1, [.long ra, .long ((ra + rb) - (((-1 : Int32).toInt64) * rz)), .long rc, .long (rx - (((-1 : Int32).toInt64) * ry)), .long ry, .long (rz - ((((2 : Int32) * (-1 : Int32)).toInt64) * ra)), .int rs]))] ++ wt) := hD
              refine lv_iconst (v := (1 : Int32)) hx hb d_R_shZ_135 (by decide) ?_
              exact W.zret (v := (1 : Int32)) (ty := .boolean) hx hb hr rfl (fun t ht hW => ⟨⟨(1 : Int32), (ra, (ra + rb) - (((-1 : Int32).toInt64) * rz), rc, rx - (((-1 : Int32).toInt64) * ry), ry, rz - ((((2 : Int32) * (-1 : Int32)).toInt64) * ra), rs), rfl, h, by rw [ht]; exact hP, hD⟩, hS.F ht⟩) hS.2.2 d_R_shZ_136
            · rw [if_neg c_11] at h
              refine lv_iconst (v := (1 : Int32)) hx hb d_R_shZ_74 (by decide) ?_
              refine lv_goto (tgt := 79) hx hb d_R_shZ_75 (by decide) ?_
              refine lv_istore_n (lv' := [(1, .int (1 : Int32)), (0, .ref h0)]) hx hb d_R_shZ_79 rfl hl (by decide) rfl (fun ls hl => ?_)
              refine lv_aload_n hx hb d_R_shZ_80 rfl (lv_at hl 1 rfl) ?_
              refine lv_aload_n hx hb d_R_shZ_81 rfl (lv_at hl 1 rfl) ?_
              refine va_get (D := D) (ci := 1) (v := .long ra) (C := R_Reducer) (T := F_Reducer) (N := 7) hx hb htg i_Reducer hown hK hP 0 rfl rfl 0 (by decide) (htg _ tm_56) (fun _ h9 => h9) rfl d_R_shZ_82 ?_
              refine lv_aload_n hx hb d_R_shZ_85 rfl (lv_at hl 1 rfl) ?_
              refine va_get (D := D) (ci := 1) (v := .long rb) (C := R_Reducer) (T := F_Reducer) (N := 7) hx hb htg i_Reducer hown hK hP 0 rfl rfl 1 (by decide) (htg _ tm_57) (fun _ h9 => h9) rfl d_R_shZ_86 ?_
              refine lv_ladd hx hb d_R_shZ_89 ?_
              refine lv_iload_n hx hb d_R_shZ_90 rfl (lv_at hl 0 rfl) ?_
              refine lv_i2l hx hb d_R_shZ_91 rfl ?_
              refine lv_aload_n hx hb d_R_shZ_92 rfl (lv_at hl 1 rfl) ?_
              refine va_get (D := D) (ci := 1) (v := .long rz) (C := R_Reducer) (T := F_Reducer) (N := 7) hx hb htg i_Reducer hown hK hP 0 rfl rfl 5 (by decide) (htg _ tm_61) (fun _ h9 => h9) rfl d_R_shZ_93 ?_
              refine lv_lmul hx hb d_R_shZ_96 ?_
              refine lv_lsub hx hb d_R_shZ_97 ?_
              refine va_put (D := D) (ci := 1) (v := .long ((ra + rb) - (((1 : Int32).toInt64) * rz))) (ty := .long) (C := R_Reducer) (T := F_Reducer) (N := 7) hx hb htg i_Reducer t_Reducer t_Reducer_ok n_Reducer hown hK hP hD hS 0 rfl rfl 1 (by decide) (htg _ tm_57) (fun _ h9 => h9) rfl (by decide +kernel) rfl rfl (Nat.le_of_ble_eq_true rfl) d_R_shZ_98 (fun H locs hP hD hS => ?_)
              have hP : va_P D classes ([(h0, .inr (1, [.long ra, .long ((ra + rb) - (((1 : Int32).toInt64) * rz)), .long rc, .long rx, .long ry, .long rz, .int rs]))] ++ wt) H := hP
              have hD : va_D A ([(h0, .inr (1, [.long ra, .long ((ra + rb) - (((1 : Int32).toInt64) * rz)), .long rc, .long rx, .long ry, .long rz, .int rs]))] ++ wt) := hD
              refine lv_aload_n hx hb d_R_shZ_101 rfl (lv_at hl 1 rfl) ?_
              refine lv_aload_n hx hb d_R_shZ_102 rfl (lv_at hl 1 rfl) ?_
              refine va_get (D := D) (ci := 1) (v := .long rx) (C := R_Reducer) (T := F_Reducer) (N := 7) hx hb htg i_Reducer hown hK hP 0 rfl rfl 3 (by decide) (htg _ tm_59) (fun _ h9 => h9) rfl d_R_shZ_103 ?_
              refine lv_iload_n hx hb d_R_shZ_106 rfl (lv_at hl 0 rfl) ?_
              refine lv_i2l hx hb d_R_shZ_107 rfl ?_
              refine lv_aload_n hx hb d_R_shZ_108 rfl (lv_at hl 1 rfl) ?_
              refine va_get (D := D) (ci := 1) (v := .long ry) (C := R_Reducer) (T := F_Reducer) (N := 7) hx hb htg i_Reducer hown hK hP 0 rfl rfl 4 (by decide) (htg _ tm_60) (fun _ h9 => h9) rfl d_R_shZ_109 ?_
              refine lv_lmul hx hb d_R_shZ_112 ?_
              refine lv_lsub hx hb d_R_shZ_113 ?_
              refine va_put (D := D) (ci := 1) (v := .long (rx - (((1 : Int32).toInt64) * ry))) (ty := .long) (C := R_Reducer) (T := F_Reducer) (N := 7) hx hb htg i_Reducer t_Reducer t_Reducer_ok n_Reducer hown hK hP hD hS 0 rfl rfl 3 (by decide) (htg _ tm_59) (fun _ h9 => h9) rfl (by decide +kernel) rfl rfl (Nat.le_of_ble_eq_true rfl) d_R_shZ_114 (fun H locs hP hD hS => ?_)
              have hP : va_P D classes ([(h0, .inr (1, [.long ra, .long ((ra + rb) - (((1 : Int32).toInt64) * rz)), .long rc, .long (rx - (((1 : Int32).toInt64) * ry)), .long ry, .long rz, .int rs]))] ++ wt) H := hP
              have hD : va_D A ([(h0, .inr (1, [.long ra, .long ((ra + rb) - (((1 : Int32).toInt64) * rz)), .long rc, .long (rx - (((1 : Int32).toInt64) * ry)), .long ry, .long rz, .int rs]))] ++ wt) := hD
              refine lv_aload_n hx hb d_R_shZ_117 rfl (lv_at hl 1 rfl) ?_
              refine lv_aload_n hx hb d_R_shZ_118 rfl (lv_at hl 1 rfl) ?_
              refine va_get (D := D) (ci := 1) (v := .long rz) (C := R_Reducer) (T := F_Reducer) (N := 7) hx hb htg i_Reducer hown hK hP 0 rfl rfl 5 (by decide) (htg _ tm_61) (fun _ h9 => h9) rfl d_R_shZ_119 ?_
              refine lv_iconst (v := (2 : Int32)) hx hb d_R_shZ_122 (by decide) ?_
              refine lv_iload_n hx hb d_R_shZ_123 rfl (lv_at hl 0 rfl) ?_
              refine lv_imul hx hb d_R_shZ_124 ?_
              refine lv_i2l hx hb d_R_shZ_125 rfl ?_
              refine lv_aload_n hx hb d_R_shZ_126 rfl (lv_at hl 1 rfl) ?_
              refine va_get (D := D) (ci := 1) (v := .long ra) (C := R_Reducer) (T := F_Reducer) (N := 7) hx hb htg i_Reducer hown hK hP 0 rfl rfl 0 (by decide) (htg _ tm_56) (fun _ h9 => h9) rfl d_R_shZ_127 ?_
              refine lv_lmul hx hb d_R_shZ_130 ?_
              refine lv_lsub hx hb d_R_shZ_131 ?_
              refine va_put (D := D) (ci := 1) (v := .long (rz - ((((2 : Int32) * (1 : Int32)).toInt64) * ra))) (ty := .long) (C := R_Reducer) (T := F_Reducer) (N := 7) hx hb htg i_Reducer t_Reducer t_Reducer_ok n_Reducer hown hK hP hD hS 0 rfl rfl 5 (by decide) (htg _ tm_61) (fun _ h9 => h9) rfl (by decide +kernel) rfl rfl (Nat.le_of_ble_eq_true rfl) d_R_shZ_132 (fun H locs hP hD hS => ?_)
              have hP : va_P D classes ([(h0, .inr (1, [.long ra, .long ((ra + rb) - (((1 : Int32).toInt64) * rz)), .long rc, .long (rx - (((1 : Int32).toInt64) * ry)), .long ry, .long (rz - ((((2 : Int32) * (1 : Int32)).toInt64) * ra)), .int rs]))] ++ wt) H := hP
              have hD : va_D A ([(h0, .inr (1, [.long ra, .long ((ra + rb) - (((1 : Int32).toInt64) * rz)), .long rc, .long (rx - (((1 : Int32).toInt64) * ry)), .long ry, .long (rz - ((((2 : Int32) * (1 : Int32)).toInt64) * ra)), .int rs]))] ++ wt) := hD
              refine lv_iconst (v := (1 : Int32)) hx hb d_R_shZ_135 (by decide) ?_
              exact W.zret (v := (1 : Int32)) (ty := .boolean) hx hb hr rfl (fun t ht hW => ⟨⟨(1 : Int32), (ra, (ra + rb) - (((1 : Int32).toInt64) * rz), rc, rx - (((1 : Int32).toInt64) * ry), ry, rz - ((((2 : Int32) * (1 : Int32)).toInt64) * ra), rs), rfl, h, by rw [ht]; exact hP, hD⟩, hS.F ht⟩) hS.2.2 d_R_shZ_136
-- CellBench$Reducer shearBySum ()Z
def f_R_shS (ra : Int64) (rb : Int64) (rc : Int64) (rx : Int64) (ry : Int64) (rz : Int64) (rs : Int32) : Int32 × Int64 × Int64 × Int64 × Int64 × Int64 × Int64 × Int32 :=
    if (lg_cmp ((((rx + ry) + rz) + ra) + rb) (0 : Int64)) < 0 then ((1 : Int32), ra, rb, rc + ((((rx + ry) + rz) + ra) + rb), (((2 : Int64) * rb) + rx) + rz, (((2 : Int64) * ra) + ry) + rz, rz, rs) else (if (lg_cmp ((((rx + ry) + rz) + ra) + rb) (0 : Int64)) = 0 then (if (lg_cmp (((2 : Int64) * (ra + ry)) + rz) (0 : Int64)) ≤ 0 then ((0 : Int32), ra, rb, rc, rx, ry, rz, rs) else ((1 : Int32), ra, rb, rc + ((((rx + ry) + rz) + ra) + rb), (((2 : Int64) * rb) + rx) + rz, (((2 : Int64) * ra) + ry) + rz, rz, rs)) else ((0 : Int32), ra, rb, rc, rx, ry, rz, rs))
def w_R_shS : List Cond := .code y_R_shS b_R_shS 3 (some .boolean) :: GW
abbrev rm_R_shS : Room := { frames := 0, cells := 0, slots := 0, locals := 0 }
theorem g_R_shS : GoodIn GW w_R_shS := gi tm_217
set_option maxHeartbeats 4000000 in
set_option maxRecDepth 100000 in
theorem c_R_shS (l : Launch) (D : va_G) (ct : CT) (A : Nat → Prop) (wt : va_W)  (h0 : Nat) (ra : Int64) (rb : Int64) (rc : Int64) (rx : Int64) (ry : Int64) (rz : Int64) (rs : Int32)   (r0 : Int32 × Int64 × Int64 × Int64 × Int64 × Int64 × Int64 × Int32) (h : f_R_shS ra rb rc rx ry rz rs = r0) : Met l y_R_shS w_R_shS rm_R_shS (va_Pc [.ref h0] (PreM D ct A ([(h0, .inr (1, [.long ra, .long rb, .long rc, .long rx, .long ry, .long rz, .int rs]))] ++ wt))) (va_Qi (fun r u => (r, u) = r0) (fun (u : Int64 × Int64 × Int64 × Int64 × Int64 × Int64 × Int32) t => match u with | (ra', rb', rc', rx', ry', rz', rs') => va_P D classes ([(h0, .inr (1, [.long ra', .long rb', .long rc', .long rx', .long ry', .long rz', .int rs']))] ++ wt) t.heap ∧ va_D A ([(h0, .inr (1, [.long ra', .long rb', .long rc', .long rx', .long ry', .long rz', .int rs']))] ++ wt)) A) 0 0 A := by
  refine Met.ofW (cc := b_R_shS) (maxL := 3) (ret := (some .boolean)) (by decide) rfl ?_
  intro p e s m args below meth c s₁ B hml hv
  obtain ⟨rfl, hA, hP, hD, hKK⟩ := hv
  have hx := B.exec
  have hb := B.bytes
  have hr := B.returns
  have htg := ht_tl (atoms_spec (ws := w_R_shS) B.pre)
  have hown : s.vm.findClass R_Reducer = some m.cls := findClass_of_methodNamed B.named
  have hlocks := B.notSynchronized
  have hK := hKK.1
  have hN := hKK.2.1
  have hO := hKK.2.2
  have hS : va_S A s.heap s.heap [] := va_S.rf
  have hl := lv_entry ([.ref h0]) (n := 3) (Nat.le_of_ble_eq_true rfl)
  rw [lg_entry_eq]
  generalize (lg_sl ([.ref h0]) ++ List.replicate (3 - (lg_sl ([.ref h0])).length) Slot.unset).toArray = ls at hl ⊢
  have hl : lv_has ls 3 [(0, .ref h0)] := hl
  unfold f_R_shS at h
  refine lv_aload_n hx hb d_R_shS_0 rfl (lv_at hl 0 rfl) ?_
  refine va_get (D := D) (ci := 1) (v := .long rx) (C := R_Reducer) (T := F_Reducer) (N := 7) hx hb htg i_Reducer hown hK hP 0 rfl rfl 3 (by decide) (htg _ tm_59) (fun _ h9 => h9) rfl d_R_shS_1 ?_
  refine lv_aload_n hx hb d_R_shS_4 rfl (lv_at hl 0 rfl) ?_
  refine va_get (D := D) (ci := 1) (v := .long ry) (C := R_Reducer) (T := F_Reducer) (N := 7) hx hb htg i_Reducer hown hK hP 0 rfl rfl 4 (by decide) (htg _ tm_60) (fun _ h9 => h9) rfl d_R_shS_5 ?_
  refine lv_ladd hx hb d_R_shS_8 ?_
  refine lv_aload_n hx hb d_R_shS_9 rfl (lv_at hl 0 rfl) ?_
  refine va_get (D := D) (ci := 1) (v := .long rz) (C := R_Reducer) (T := F_Reducer) (N := 7) hx hb htg i_Reducer hown hK hP 0 rfl rfl 5 (by decide) (htg _ tm_61) (fun _ h9 => h9) rfl d_R_shS_10 ?_
  refine lv_ladd hx hb d_R_shS_13 ?_
  refine lv_aload_n hx hb d_R_shS_14 rfl (lv_at hl 0 rfl) ?_
  refine va_get (D := D) (ci := 1) (v := .long ra) (C := R_Reducer) (T := F_Reducer) (N := 7) hx hb htg i_Reducer hown hK hP 0 rfl rfl 0 (by decide) (htg _ tm_56) (fun _ h9 => h9) rfl d_R_shS_15 ?_
  refine lv_ladd hx hb d_R_shS_18 ?_
  refine lv_aload_n hx hb d_R_shS_19 rfl (lv_at hl 0 rfl) ?_
  refine va_get (D := D) (ci := 1) (v := .long rb) (C := R_Reducer) (T := F_Reducer) (N := 7) hx hb htg i_Reducer hown hK hP 0 rfl rfl 1 (by decide) (htg _ tm_57) (fun _ h9 => h9) rfl d_R_shS_20 ?_
  refine lv_ladd hx hb d_R_shS_23 ?_
  refine lv_lstore_n (lv' := [(1, .long ((((rx + ry) + rz) + ra) + rb)), (0, .ref h0)]) hx hb d_R_shS_24 rfl hl (by decide) rfl (fun ls hl => ?_)
  refine lv_lload_n hx hb d_R_shS_25 rfl (lv_at hl 0 rfl) ?_
  refine lv_lconst (v := (0 : Int64)) hx hb d_R_shS_26 (by decide) ?_
  refine W.lcmp hx hb d_R_shS_27 ?_
  refine lv_if_lt (tgt := 60) hx hb d_R_shS_28 (by decide) (fun c_1 => ?_) (fun c_1 => ?_)
  · rw [if_pos c_1] at h
    refine lv_aload_n hx hb d_R_shS_60 rfl (lv_at hl 1 rfl) ?_
    refine lv_aload_n hx hb d_R_shS_61 rfl (lv_at hl 1 rfl) ?_
    refine va_get (D := D) (ci := 1) (v := .long rc) (C := R_Reducer) (T := F_Reducer) (N := 7) hx hb htg i_Reducer hown hK hP 0 rfl rfl 2 (by decide) (htg _ tm_58) (fun _ h9 => h9) rfl d_R_shS_62 ?_
    refine lv_lload_n hx hb d_R_shS_65 rfl (lv_at hl 0 rfl) ?_
    refine lv_ladd hx hb d_R_shS_66 ?_
    refine va_put (D := D) (ci := 1) (v := .long (rc + ((((rx + ry) + rz) + ra) + rb))) (ty := .long) (C := R_Reducer) (T := F_Reducer) (N := 7) hx hb htg i_Reducer t_Reducer t_Reducer_ok n_Reducer hown hK hP hD hS 0 rfl rfl 2 (by decide) (htg _ tm_58) (fun _ h9 => h9) rfl (by decide +kernel) rfl rfl (Nat.le_of_ble_eq_true rfl) d_R_shS_67 (fun H locs hP hD hS => ?_)
    have hP : va_P D classes ([(h0, .inr (1, [.long ra, .long rb, .long (rc + ((((rx + ry) + rz) + ra) + rb)), .long rx, .long ry, .long rz, .int rs]))] ++ wt) H := hP
    have hD : va_D A ([(h0, .inr (1, [.long ra, .long rb, .long (rc + ((((rx + ry) + rz) + ra) + rb)), .long rx, .long ry, .long rz, .int rs]))] ++ wt) := hD
    refine lv_aload_n hx hb d_R_shS_70 rfl (lv_at hl 1 rfl) ?_
    refine lv_ldc2 (v := (2 : Int64)) hx hb hown (htg _ tm_178) d_R_shS_71 ?_
    refine lv_aload_n hx hb d_R_shS_74 rfl (lv_at hl 1 rfl) ?_
    refine va_get (D := D) (ci := 1) (v := .long rb) (C := R_Reducer) (T := F_Reducer) (N := 7) hx hb htg i_Reducer hown hK hP 0 rfl rfl 1 (by decide) (htg _ tm_57) (fun _ h9 => h9) rfl d_R_shS_75 ?_
    refine lv_lmul hx hb d_R_shS_78 ?_
    refine lv_aload_n hx hb d_R_shS_79 rfl (lv_at hl 1 rfl) ?_
    refine va_get (D := D) (ci := 1) (v := .long rx) (C := R_Reducer) (T := F_Reducer) (N := 7) hx hb htg i_Reducer hown hK hP 0 rfl rfl 3 (by decide) (htg _ tm_59) (fun _ h9 => h9) rfl d_R_shS_80 ?_
    refine lv_ladd hx hb d_R_shS_83 ?_
    refine lv_aload_n hx hb d_R_shS_84 rfl (lv_at hl 1 rfl) ?_
    refine va_get (D := D) (ci := 1) (v := .long rz) (C := R_Reducer) (T := F_Reducer) (N := 7) hx hb htg i_Reducer hown hK hP 0 rfl rfl 5 (by decide) (htg _ tm_61) (fun _ h9 => h9) rfl d_R_shS_85 ?_
    refine lv_ladd hx hb d_R_shS_88 ?_
    refine va_put (D := D) (ci := 1) (v := .long ((((2 : Int64) * rb) + rx) + rz)) (ty := .long) (C := R_Reducer) (T := F_Reducer) (N := 7) hx hb htg i_Reducer t_Reducer t_Reducer_ok n_Reducer hown hK hP hD hS 0 rfl rfl 3 (by decide) (htg _ tm_59) (fun _ h9 => h9) rfl (by decide +kernel) rfl rfl (Nat.le_of_ble_eq_true rfl) d_R_shS_89 (fun H locs hP hD hS => ?_)
    have hP : va_P D classes ([(h0, .inr (1, [.long ra, .long rb, .long (rc + ((((rx + ry) + rz) + ra) + rb)), .long ((((2 : Int64) * rb) + rx) + rz), .long ry, .long rz, .int rs]))] ++ wt) H := hP
    have hD : va_D A ([(h0, .inr (1, [.long ra, .long rb, .long (rc + ((((rx + ry) + rz) + ra) + rb)), .long ((((2 : Int64) * rb) + rx) + rz), .long ry, .long rz, .int rs]))] ++ wt) := hD
    refine lv_aload_n hx hb d_R_shS_92 rfl (lv_at hl 1 rfl) ?_
    refine lv_ldc2 (v := (2 : Int64)) hx hb hown (htg _ tm_178) d_R_shS_93 ?_
    refine lv_aload_n hx hb d_R_shS_96 rfl (lv_at hl 1 rfl) ?_
    refine va_get (D := D) (ci := 1) (v := .long ra) (C := R_Reducer) (T := F_Reducer) (N := 7) hx hb htg i_Reducer hown hK hP 0 rfl rfl 0 (by decide) (htg _ tm_56) (fun _ h9 => h9) rfl d_R_shS_97 ?_
    refine lv_lmul hx hb d_R_shS_100 ?_
    refine lv_aload_n hx hb d_R_shS_101 rfl (lv_at hl 1 rfl) ?_
    refine va_get (D := D) (ci := 1) (v := .long ry) (C := R_Reducer) (T := F_Reducer) (N := 7) hx hb htg i_Reducer hown hK hP 0 rfl rfl 4 (by decide) (htg _ tm_60) (fun _ h9 => h9) rfl d_R_shS_102 ?_
    refine lv_ladd hx hb d_R_shS_105 ?_
    refine lv_aload_n hx hb d_R_shS_106 rfl (lv_at hl 1 rfl) ?_
    refine va_get (D := D) (ci := 1) (v := .long rz) (C := R_Reducer) (T := F_Reducer) (N := 7) hx hb htg i_Reducer hown hK hP 0 rfl rfl 5 (by decide) (htg _ tm_61) (fun _ h9 => h9) rfl d_R_shS_107 ?_
    refine lv_ladd hx hb d_R_shS_110 ?_
    refine va_put (D := D) (ci := 1) (v := .long ((((2 : Int64) * ra) + ry) + rz)) (ty := .long) (C := R_Reducer) (T := F_Reducer) (N := 7) hx hb htg i_Reducer t_Reducer t_Reducer_ok n_Reducer hown hK hP hD hS 0 rfl rfl 4 (by decide) (htg _ tm_60) (fun _ h9 => h9) rfl (by decide +kernel) rfl rfl (Nat.le_of_ble_eq_true rfl) d_R_shS_111 (fun H locs hP hD hS => ?_)
    have hP : va_P D classes ([(h0, .inr (1, [.long ra, .long rb, .long (rc + ((((rx + ry) + rz) + ra) + rb)), .long ((((2 : Int64) * rb) + rx) + rz), .long ((((2 : Int64) * ra) + ry) + rz), .long rz, .int rs]))] ++ wt) H := hP
    have hD : va_D A ([(h0, .inr (1, [.long ra, .long rb, .long (rc + ((((rx + ry) + rz) + ra) + rb)), .long ((((2 : Int64) * rb) + rx) + rz), .long ((((2 : Int64) * ra) + ry) + rz), .long rz, .int rs]))] ++ wt) := hD
    refine lv_iconst (v := (1 : Int32)) hx hb d_R_shS_114 (by decide) ?_
    exact W.zret (v := (1 : Int32)) (ty := .boolean) hx hb hr rfl (fun t ht hW => ⟨⟨(1 : Int32), (ra, rb, rc + ((((rx + ry) + rz) + ra) + rb), (((2 : Int64) * rb) + rx) + rz, (((2 : Int64) * ra) + ry) + rz, rz, rs), rfl, h, by rw [ht]; exact hP, hD⟩, hS.F ht⟩) hS.2.2 d_R_shS_115
  · rw [if_neg c_1] at h
    refine lv_lload_n hx hb d_R_shS_31 rfl (lv_at hl 0 rfl) ?_
    refine lv_lconst (v := (0 : Int64)) hx hb d_R_shS_32 (by decide) ?_
    refine W.lcmp hx hb d_R_shS_33 ?_
    refine lv_if_ne (tgt := 116) hx hb d_R_shS_34 (by decide) (fun c_2 => ?_) (fun c_2 => ?_)
    · rw [if_neg c_2] at h
      refine lv_iconst (v := (0 : Int32)) hx hb d_R_shS_116 (by decide) ?_
      exact W.zret (v := (0 : Int32)) (ty := .boolean) hx hb hr rfl (fun t ht hW => ⟨⟨(0 : Int32), (ra, rb, rc, rx, ry, rz, rs), rfl, h, by rw [ht]; exact hP, hD⟩, hS.F ht⟩) hS.2.2 d_R_shS_117
    · rw [if_pos c_2] at h
      refine lv_ldc2 (v := (2 : Int64)) hx hb hown (htg _ tm_178) d_R_shS_37 ?_
      refine lv_aload_n hx hb d_R_shS_40 rfl (lv_at hl 1 rfl) ?_
      refine va_get (D := D) (ci := 1) (v := .long ra) (C := R_Reducer) (T := F_Reducer) (N := 7) hx hb htg i_Reducer hown hK hP 0 rfl rfl 0 (by decide) (htg _ tm_56) (fun _ h9 => h9) rfl d_R_shS_41 ?_
      refine lv_aload_n hx hb d_R_shS_44 rfl (lv_at hl 1 rfl) ?_
      refine va_get (D := D) (ci := 1) (v := .long ry) (C := R_Reducer) (T := F_Reducer) (N := 7) hx hb htg i_Reducer hown hK hP 0 rfl rfl 4 (by decide) (htg _ tm_60) (fun _ h9 => h9) rfl d_R_shS_45 ?_
      refine lv_ladd hx hb d_R_shS_48 ?_
      refine lv_lmul hx hb d_R_shS_49 ?_
      refine lv_aload_n hx hb d_R_shS_50 rfl (lv_at hl 1 rfl) ?_
      refine va_get (D := D) (ci := 1) (v := .long rz) (C := R_Reducer) (T := F_Reducer) (N := 7) hx hb htg i_Reducer hown hK hP 0 rfl rfl 5 (by decide) (htg _ tm_61) (fun _ h9 => h9) rfl d_R_shS_51 ?_
      refine lv_ladd hx hb d_R_shS_54 ?_
      refine lv_lconst (v := (0 : Int64)) hx hb d_R_shS_55 (by decide) ?_
      refine W.lcmp hx hb d_R_shS_56 ?_
      refine lv_if_le (tgt := 116) hx hb d_R_shS_57 (by decide) (fun c_3 => ?_) (fun c_3 => ?_)
      · rw [if_pos c_3] at h
        refine lv_iconst (v := (0 : Int32)) hx hb d_R_shS_116 (by decide) ?_
        exact W.zret (v := (0 : Int32)) (ty := .boolean) hx hb hr rfl (fun t ht hW => ⟨⟨(0 : Int32), (ra, rb, rc, rx, ry, rz, rs), rfl, h, by rw [ht]; exact hP, hD⟩, hS.F ht⟩) hS.2.2 d_R_shS_117
      · rw [if_neg c_3] at h
        refine lv_aload_n hx hb d_R_shS_60 rfl (lv_at hl 1 rfl) ?_
        refine lv_aload_n hx hb d_R_shS_61 rfl (lv_at hl 1 rfl) ?_
        refine va_get (D := D) (ci := 1) (v := .long rc) (C := R_Reducer) (T := F_Reducer) (N := 7) hx hb htg i_Reducer hown hK hP 0 rfl rfl 2 (by decide) (htg _ tm_58) (fun _ h9 => h9) rfl d_R_shS_62 ?_
        refine lv_lload_n hx hb d_R_shS_65 rfl (lv_at hl 0 rfl) ?_
        refine lv_ladd hx hb d_R_shS_66 ?_
        refine va_put (D := D) (ci := 1) (v := .long (rc + ((((rx + ry) + rz) + ra) + rb))) (ty := .long) (C := R_Reducer) (T := F_Reducer) (N := 7) hx hb htg i_Reducer t_Reducer t_Reducer_ok n_Reducer hown hK hP hD hS 0 rfl rfl 2 (by decide) (htg _ tm_58) (fun _ h9 => h9) rfl (by decide +kernel) rfl rfl (Nat.le_of_ble_eq_true rfl) d_R_shS_67 (fun H locs hP hD hS => ?_)
        have hP : va_P D classes ([(h0, .inr (1, [.long ra, .long rb, .long (rc + ((((rx + ry) + rz) + ra) + rb)), .long rx, .long ry, .long rz, .int rs]))] ++ wt) H := hP
        have hD : va_D A ([(h0, .inr (1, [.long ra, .long rb, .long (rc + ((((rx + ry) + rz) + ra) + rb)), .long rx, .long ry, .long rz, .int rs]))] ++ wt) := hD
        refine lv_aload_n hx hb d_R_shS_70 rfl (lv_at hl 1 rfl) ?_
        refine lv_ldc2 (v := (2 : Int64)) hx hb hown (htg _ tm_178) d_R_shS_71 ?_
        refine lv_aload_n hx hb d_R_shS_74 rfl (lv_at hl 1 rfl) ?_
        refine va_get (D := D) (ci := 1) (v := .long rb) (C := R_Reducer) (T := F_Reducer) (N := 7) hx hb htg i_Reducer hown hK hP 0 rfl rfl 1 (by decide) (htg _ tm_57) (fun _ h9 => h9) rfl d_R_shS_75 ?_
        refine lv_lmul hx hb d_R_shS_78 ?_
        refine lv_aload_n hx hb d_R_shS_79 rfl (lv_at hl 1 rfl) ?_
        refine va_get (D := D) (ci := 1) (v := .long rx) (C := R_Reducer) (T := F_Reducer) (N := 7) hx hb htg i_Reducer hown hK hP 0 rfl rfl 3 (by decide) (htg _ tm_59) (fun _ h9 => h9) rfl d_R_shS_80 ?_
        refine lv_ladd hx hb d_R_shS_83 ?_
        refine lv_aload_n hx hb d_R_shS_84 rfl (lv_at hl 1 rfl) ?_
        refine va_get (D := D) (ci := 1) (v := .long rz) (C := R_Reducer) (T := F_Reducer) (N := 7) hx hb htg i_Reducer hown hK hP 0 rfl rfl 5 (by decide) (htg _ tm_61) (fun _ h9 => h9) rfl d_R_shS_85 ?_
        refine lv_ladd hx hb d_R_shS_88 ?_
        refine va_put (D := D) (ci := 1) (v := .long ((((2 : Int64) * rb) + rx) + rz)) (ty := .long) (C := R_Reducer) (T := F_Reducer) (N := 7) hx hb htg i_Reducer t_Reducer t_Reducer_ok n_Reducer hown hK hP hD hS 0 rfl rfl 3 (by decide) (htg _ tm_59) (fun _ h9 => h9) rfl (by decide +kernel) rfl rfl (Nat.le_of_ble_eq_true rfl) d_R_shS_89 (fun H locs hP hD hS => ?_)
        have hP : va_P D classes ([(h0, .inr (1, [.long ra, .long rb, .long (rc + ((((rx + ry) + rz) + ra) + rb)), .long ((((2 : Int64) * rb) + rx) + rz), .long ry, .long rz, .int rs]))] ++ wt) H := hP
        have hD : va_D A ([(h0, .inr (1, [.long ra, .long rb, .long (rc + ((((rx + ry) + rz) + ra) + rb)), .long ((((2 : Int64) * rb) + rx) + rz), .long ry, .long rz, .int rs]))] ++ wt) := hD
        refine lv_aload_n hx hb d_R_shS_92 rfl (lv_at hl 1 rfl) ?_
        refine lv_ldc2 (v := (2 : Int64)) hx hb hown (htg _ tm_178) d_R_shS_93 ?_
        refine lv_aload_n hx hb d_R_shS_96 rfl (lv_at hl 1 rfl) ?_
        refine va_get (D := D) (ci := 1) (v := .long ra) (C := R_Reducer) (T := F_Reducer) (N := 7) hx hb htg i_Reducer hown hK hP 0 rfl rfl 0 (by decide) (htg _ tm_56) (fun _ h9 => h9) rfl d_R_shS_97 ?_
        refine lv_lmul hx hb d_R_shS_100 ?_
        refine lv_aload_n hx hb d_R_shS_101 rfl (lv_at hl 1 rfl) ?_
        refine va_get (D := D) (ci := 1) (v := .long ry) (C := R_Reducer) (T := F_Reducer) (N := 7) hx hb htg i_Reducer hown hK hP 0 rfl rfl 4 (by decide) (htg _ tm_60) (fun _ h9 => h9) rfl d_R_shS_102 ?_
        refine lv_ladd hx hb d_R_shS_105 ?_
        refine lv_aload_n hx hb d_R_shS_106 rfl (lv_at hl 1 rfl) ?_
        refine va_get (D := D) (ci := 1) (v := .long rz) (C := R_Reducer) (T := F_Reducer) (N := 7) hx hb htg i_Reducer hown hK hP 0 rfl rfl 5 (by decide) (htg _ tm_61) (fun _ h9 => h9) rfl d_R_shS_107 ?_
        refine lv_ladd hx hb d_R_shS_110 ?_
        refine va_put (D := D) (ci := 1) (v := .long ((((2 : Int64) * ra) + ry) + rz)) (ty := .long) (C := R_Reducer) (T := F_Reducer) (N := 7) hx hb htg i_Reducer t_Reducer t_Reducer_ok n_Reducer hown hK hP hD hS 0 rfl rfl 4 (by decide) (htg _ tm_60) (fun _ h9 => h9) rfl (by decide +kernel) rfl rfl (Nat.le_of_ble_eq_true rfl) d_R_shS_111 (fun H locs hP hD hS => ?_)
        have hP : va_P D classes ([(h0, .inr (1, [.long ra, .long rb, .long (rc + ((((rx + ry) + rz) + ra) + rb)), .long ((((2 : Int64) * rb) + rx) + rz), .long ((((2 : Int64) * ra) + ry) + rz), .long rz, .int rs]))] ++ wt) H := hP
        have hD : va_D A ([(h0, .inr (1, [.long ra, .long rb, .long (rc + ((((rx + ry) + rz) + ra) + rb)), .long ((((2 : Int64) * rb) + rx) + rz), .long ((((2 : Int64) * ra) + ry) + rz), .long rz, .int rs]))] ++ wt) := hD
        refine lv_iconst (v := (1 : Int32)) hx hb d_R_shS_114 (by decide) ?_
        exact W.zret (v := (1 : Int32)) (ty := .boolean) hx hb hr rfl (fun t ht hW => ⟨⟨(1 : Int32), (ra, rb, rc + ((((rx + ry) + rz) + ra) + rb), (((2 : Int64) * rb) + rx) + rz, (((2 : Int64) * ra) + ry) + rz, rz, rs), rfl, h, by rw [ht]; exact hP, hD⟩, hS.F ht⟩) hS.2.2 d_R_shS_115
end
section
theorem d_R_run_0 : decode b_R_run 0 = .ok (.aload_n 0, 1) := by decide +kernel
theorem d_R_run_1 : decode b_R_run 1 = .ok (.iconst 0, 1) := by decide +kernel
theorem d_R_run_2 : decode b_R_run 2 = .ok (.putfield 7, 3) := by decide +kernel
theorem d_R_run_5 : decode b_R_run 5 = .ok (.iconst 0, 1) := by decide +kernel
theorem d_R_run_6 : decode b_R_run 6 = .ok (.istore_n 1, 1) := by decide +kernel
theorem d_R_run_7 : decode b_R_run 7 = .ok (.iload_n 1, 1) := by decide +kernel
theorem d_R_run_8 : decode b_R_run 8 = .ok (.ldc 58, 2) := by decide +kernel
theorem d_R_run_10 : decode b_R_run 10 = .ok (.if_icmp .ge 66, 3) := by decide +kernel
theorem d_R_run_13 : decode b_R_run 13 = .ok (.aload_n 0, 1) := by decide +kernel
theorem d_R_run_14 : decode b_R_run 14 = .ok (.invokevirtual 59, 3) := by decide +kernel
theorem d_R_run_17 : decode b_R_run 17 = .ok (.aload_n 0, 1) := by decide +kernel
theorem d_R_run_18 : decode b_R_run 18 = .ok (.invokevirtual 62, 3) := by decide +kernel
theorem d_R_run_21 : decode b_R_run 21 = .ok (.ifCond .eq 6, 3) := by decide +kernel
theorem d_R_run_24 : decode b_R_run 24 = .ok (.goto 46, 3) := by decide +kernel
theorem d_R_run_27 : decode b_R_run 27 = .ok (.aload_n 0, 1) := by decide +kernel
theorem d_R_run_28 : decode b_R_run 28 = .ok (.invokevirtual 66, 3) := by decide +kernel
theorem d_R_run_31 : decode b_R_run 31 = .ok (.aload_n 0, 1) := by decide +kernel
theorem d_R_run_32 : decode b_R_run 32 = .ok (.invokevirtual 69, 3) := by decide +kernel
theorem d_R_run_35 : decode b_R_run 35 = .ok (.ifCond .ne 25, 3) := by decide +kernel
theorem d_R_run_38 : decode b_R_run 38 = .ok (.aload_n 0, 1) := by decide +kernel
theorem d_R_run_39 : decode b_R_run 39 = .ok (.invokevirtual 72, 3) := by decide +kernel
theorem d_R_run_42 : decode b_R_run 42 = .ok (.ifCond .ne 18, 3) := by decide +kernel
theorem d_R_run_45 : decode b_R_run 45 = .ok (.aload_n 0, 1) := by decide +kernel
theorem d_R_run_46 : decode b_R_run 46 = .ok (.invokevirtual 75, 3) := by decide +kernel
theorem d_R_run_49 : decode b_R_run 49 = .ok (.ifCond .ne 11, 3) := by decide +kernel
theorem d_R_run_52 : decode b_R_run 52 = .ok (.aload_n 0, 1) := by decide +kernel
theorem d_R_run_53 : decode b_R_run 53 = .ok (.invokevirtual 78, 3) := by decide +kernel
theorem d_R_run_56 : decode b_R_run 56 = .ok (.ifCond .ne 4, 3) := by decide +kernel
theorem d_R_run_59 : decode b_R_run 59 = .ok (.return_, 1) := by decide +kernel
theorem d_R_run_60 : decode b_R_run 60 = .ok (.aload_n 0, 1) := by decide +kernel
theorem d_R_run_61 : decode b_R_run 61 = .ok (.dup, 1) := by decide +kernel
theorem d_R_run_62 : decode b_R_run 62 = .ok (.getfield 7, 3) := by decide +kernel
theorem d_R_run_65 : decode b_R_run 65 = .ok (.iconst 1, 1) := by decide +kernel
theorem d_R_run_66 : decode b_R_run 66 = .ok (.iadd, 1) := by decide +kernel
theorem d_R_run_67 : decode b_R_run 67 = .ok (.putfield 7, 3) := by decide +kernel
theorem d_R_run_70 : decode b_R_run 70 = .ok (.iinc 1 1, 3) := by decide +kernel
theorem d_R_run_73 : decode b_R_run 73 = .ok (.goto (-66), 3) := by decide +kernel
theorem d_R_run_76 : decode b_R_run 76 = .ok (.return_, 1) := by decide +kernel
theorem d_R_reduce_0 : decode b_R_reduce 0 = .ok (.aload_n 0, 1) := by decide +kernel
theorem d_R_reduce_1 : decode b_R_reduce 1 = .ok (.aload_n 1, 1) := by decide +kernel
theorem d_R_reduce_2 : decode b_R_reduce 2 = .ok (.getfield 13, 3) := by decide +kernel
theorem d_R_reduce_5 : decode b_R_reduce 5 = .ok (.aload_n 1, 1) := by decide +kernel
theorem d_R_reduce_6 : decode b_R_reduce 6 = .ok (.getfield 19, 3) := by decide +kernel
theorem d_R_reduce_9 : decode b_R_reduce 9 = .ok (.aload_n 1, 1) := by decide +kernel
theorem d_R_reduce_10 : decode b_R_reduce 10 = .ok (.getfield 22, 3) := by decide +kernel
theorem d_R_reduce_13 : decode b_R_reduce 13 = .ok (.invokevirtual 25, 3) := by decide +kernel
theorem d_R_reduce_16 : decode b_R_reduce 16 = .ok (.aload_n 0, 1) := by decide +kernel
theorem d_R_reduce_17 : decode b_R_reduce 17 = .ok (.aload_n 1, 1) := by decide +kernel
theorem d_R_reduce_18 : decode b_R_reduce 18 = .ok (.getfield 29, 3) := by decide +kernel
theorem d_R_reduce_21 : decode b_R_reduce 21 = .ok (.aload_n 1, 1) := by decide +kernel
theorem d_R_reduce_22 : decode b_R_reduce 22 = .ok (.getfield 32, 3) := by decide +kernel
theorem d_R_reduce_25 : decode b_R_reduce 25 = .ok (.aload_n 1, 1) := by decide +kernel
theorem d_R_reduce_26 : decode b_R_reduce 26 = .ok (.getfield 35, 3) := by decide +kernel
theorem d_R_reduce_29 : decode b_R_reduce 29 = .ok (.invokevirtual 38, 3) := by decide +kernel
theorem d_R_reduce_32 : decode b_R_reduce 32 = .ok (.aload_n 0, 1) := by decide +kernel
theorem d_R_reduce_33 : decode b_R_reduce 33 = .ok (.invokevirtual 41, 3) := by decide +kernel
theorem d_R_reduce_36 : decode b_R_reduce 36 = .ok (.return_, 1) := by decide +kernel
theorem d_R_result_0 : decode b_R_result 0 = .ok (.new 14, 3) := by decide +kernel
theorem d_R_result_3 : decode b_R_result 3 = .ok (.dup, 1) := by decide +kernel
theorem d_R_result_4 : decode b_R_result 4 = .ok (.aload_n 0, 1) := by decide +kernel
theorem d_R_result_5 : decode b_R_result 5 = .ok (.getfield 44, 3) := by decide +kernel
theorem d_R_result_8 : decode b_R_result 8 = .ok (.aload_n 0, 1) := by decide +kernel
theorem d_R_result_9 : decode b_R_result 9 = .ok (.getfield 45, 3) := by decide +kernel
theorem d_R_result_12 : decode b_R_result 12 = .ok (.aload_n 0, 1) := by decide +kernel
theorem d_R_result_13 : decode b_R_result 13 = .ok (.getfield 46, 3) := by decide +kernel
theorem d_R_result_16 : decode b_R_result 16 = .ok (.aload_n 0, 1) := by decide +kernel
theorem d_R_result_17 : decode b_R_result 17 = .ok (.getfield 49, 3) := by decide +kernel
theorem d_R_result_20 : decode b_R_result 20 = .ok (.ldc2_w 47, 3) := by decide +kernel
theorem d_R_result_23 : decode b_R_result 23 = .ok (.ldiv, 1) := by decide +kernel
theorem d_R_result_24 : decode b_R_result 24 = .ok (.aload_n 0, 1) := by decide +kernel
theorem d_R_result_25 : decode b_R_result 25 = .ok (.getfield 52, 3) := by decide +kernel
theorem d_R_result_28 : decode b_R_result 28 = .ok (.ldc2_w 47, 3) := by decide +kernel
theorem d_R_result_31 : decode b_R_result 31 = .ok (.ldiv, 1) := by decide +kernel
theorem d_R_result_32 : decode b_R_result 32 = .ok (.aload_n 0, 1) := by decide +kernel
theorem d_R_result_33 : decode b_R_result 33 = .ok (.getfield 55, 3) := by decide +kernel
theorem d_R_result_36 : decode b_R_result 36 = .ok (.ldc2_w 47, 3) := by decide +kernel
theorem d_R_result_39 : decode b_R_result 39 = .ok (.ldiv, 1) := by decide +kernel
theorem d_R_result_40 : decode b_R_result 40 = .ok (.invokespecial 81, 3) := by decide +kernel
theorem d_R_result_43 : decode b_R_result 43 = .ok (.areturn, 1) := by decide +kernel
end
section
-- CellBench$Reducer run ()V
def lp_R_run_7  : Nat → Int32 → Int64 → Int64 → Int64 → Int64 → Int64 → Int64 → Int32 → Option (Int64 × Int64 × Int64 × Int64 × Int64 × Int64 × Int32)
  | 0, _, _, _, _, _, _, _, _ => none
  | n + 1, tu, ra, rb, rc, rx, ry, rz, rs =>
    if (1000000 : Int32) ≤ tu then (some (ra, rb, rc, rx, ry, rz, rs)) else (bnd (f_R_ord1 ra rb rc rx ry rz rs) (fun z_74 => (bnd (f_R_ord2 z_74.1 z_74.2.1 z_74.2.2.1 z_74.2.2.2.1 z_74.2.2.2.2.1 z_74.2.2.2.2.2.1 z_74.2.2.2.2.2.2) (fun z_73 => (if z_73.1 = 0 then (bnd (f_R_align z_73.2.1 z_73.2.2.1 z_73.2.2.2.1 z_73.2.2.2.2.1 z_73.2.2.2.2.2.1 z_73.2.2.2.2.2.2.1 z_73.2.2.2.2.2.2.2) (fun z_72 => (bnd (f_R_shX z_72.1 z_72.2.1 z_72.2.2.1 z_72.2.2.2.1 z_72.2.2.2.2.1 z_72.2.2.2.2.2.1 z_72.2.2.2.2.2.2) (fun z_71 => (if z_71.1 = 0 then (bnd (f_R_shY z_71.2.1 z_71.2.2.1 z_71.2.2.2.1 z_71.2.2.2.2.1 z_71.2.2.2.2.2.1 z_71.2.2.2.2.2.2.1 z_71.2.2.2.2.2.2.2) (fun z_70 => (if z_70.1 = 0 then (bnd (f_R_shZ z_70.2.1 z_70.2.2.1 z_70.2.2.2.1 z_70.2.2.2.2.1 z_70.2.2.2.2.2.1 z_70.2.2.2.2.2.2.1 z_70.2.2.2.2.2.2.2) (fun z_69 => (if z_69.1 = 0 then (bnd (f_R_shS z_69.2.1 z_69.2.2.1 z_69.2.2.2.1 z_69.2.2.2.2.1 z_69.2.2.2.2.2.1 z_69.2.2.2.2.2.2.1 z_69.2.2.2.2.2.2.2) (fun z_68 => (if z_68.1 = 0 then (some (z_68.2.1, z_68.2.2.1, z_68.2.2.2.1, z_68.2.2.2.2.1, z_68.2.2.2.2.2.1, z_68.2.2.2.2.2.2.1, z_68.2.2.2.2.2.2.2)) else (lp_R_run_7  n (tu + (1 : Int32)) z_68.2.1 z_68.2.2.1 z_68.2.2.2.1 z_68.2.2.2.2.1 z_68.2.2.2.2.2.1 z_68.2.2.2.2.2.2.1 (z_68.2.2.2.2.2.2.2 + (1 : Int32)))))) else (lp_R_run_7  n (tu + (1 : Int32)) z_69.2.1 z_69.2.2.1 z_69.2.2.2.1 z_69.2.2.2.2.1 z_69.2.2.2.2.2.1 z_69.2.2.2.2.2.2.1 (z_69.2.2.2.2.2.2.2 + (1 : Int32)))))) else (lp_R_run_7  n (tu + (1 : Int32)) z_70.2.1 z_70.2.2.1 z_70.2.2.2.1 z_70.2.2.2.2.1 z_70.2.2.2.2.2.1 z_70.2.2.2.2.2.2.1 (z_70.2.2.2.2.2.2.2 + (1 : Int32)))))) else (lp_R_run_7  n (tu + (1 : Int32)) z_71.2.1 z_71.2.2.1 z_71.2.2.2.1 z_71.2.2.2.2.1 z_71.2.2.2.2.2.1 z_71.2.2.2.2.2.2.1 (z_71.2.2.2.2.2.2.2 + (1 : Int32)))))))) else (lp_R_run_7  n (tu + (1 : Int32)) z_73.2.1 z_73.2.2.1 z_73.2.2.2.1 z_73.2.2.2.2.1 z_73.2.2.2.2.2.1 z_73.2.2.2.2.2.2.1 z_73.2.2.2.2.2.2.2))))))
def f_R_run (ra : Int64) (rb : Int64) (rc : Int64) (rx : Int64) (ry : Int64) (rz : Int64) (rs : Int32) : Option (Int64 × Int64 × Int64 × Int64 × Int64 × Int64 × Int32) :=
    lp_R_run_7  1000001 (0 : Int32) ra rb rc rx ry rz (0 : Int32)
def w_R_run : List Cond := .code y_R_run b_R_run 2 none :: GW
abbrev rm_R_run : Room := { frames := 2, cells := 0, slots := 0, locals := 45 }
theorem g_R_run : GoodIn GW w_R_run := gi tm_182
set_option maxHeartbeats 4000000 in
set_option maxRecDepth 100000 in
theorem c_R_run (l : Launch) (D : va_G) (ct : CT) (A : Nat → Prop) (wt : va_W)  (h0 : Nat) (ra : Int64) (rb : Int64) (rc : Int64) (rx : Int64) (ry : Int64) (rz : Int64) (rs : Int32)   (r0 : Int64 × Int64 × Int64 × Int64 × Int64 × Int64 × Int32) (h : f_R_run ra rb rc rx ry rz rs = some r0) : Met l y_R_run w_R_run rm_R_run (va_Pc [.ref h0] (PreM D ct A ([(h0, .inr (1, [.long ra, .long rb, .long rc, .long rx, .long ry, .long rz, .int rs]))] ++ wt))) (va_Qv (fun u => u = r0) (fun (u : Int64 × Int64 × Int64 × Int64 × Int64 × Int64 × Int32) t => match u with | (ra', rb', rc', rx', ry', rz', rs') => va_P D classes ([(h0, .inr (1, [.long ra', .long rb', .long rc', .long rx', .long ry', .long rz', .int rs']))] ++ wt) t.heap ∧ va_D A ([(h0, .inr (1, [.long ra', .long rb', .long rc', .long rx', .long ry', .long rz', .int rs']))] ++ wt)) A) 0 0 A := by
  refine Met.ofW (cc := b_R_run) (maxL := 2) (ret := none) (by decide) rfl ?_
  intro p e s m args below meth c s₁ B hml hv
  obtain ⟨rfl, hA, hP, hD, hKK⟩ := hv
  have hx := B.exec
  have hb := B.bytes
  have hr := B.returns
  have htg := ht_tl (atoms_spec (ws := w_R_run) B.pre)
  have hown : s.vm.findClass R_Reducer = some m.cls := findClass_of_methodNamed B.named
  have hlocks := B.notSynchronized
  have hK := hKK.1
  have hN := hKK.2.1
  have hO := hKK.2.2
  have hS : va_S A s.heap s.heap [] := va_S.rf
  have hl := lv_entry ([.ref h0]) (n := 2) (Nat.le_of_ble_eq_true rfl)
  rw [lg_entry_eq]
  generalize (lg_sl ([.ref h0]) ++ List.replicate (2 - (lg_sl ([.ref h0])).length) Slot.unset).toArray = ls at hl ⊢
  have hl : lv_has ls 2 [(0, .ref h0)] := hl
  unfold f_R_run at h
  refine lv_aload_n hx hb d_R_run_0 rfl (lv_at hl 0 rfl) ?_
  refine lv_iconst (v := (0 : Int32)) hx hb d_R_run_1 (by decide) ?_
  refine va_put (D := D) (ci := 1) (v := .int (0 : Int32)) (ty := .int) (C := R_Reducer) (T := F_Reducer) (N := 7) hx hb htg i_Reducer t_Reducer t_Reducer_ok n_Reducer hown hK hP hD hS 0 rfl rfl 6 (by decide) (htg _ tm_62) (fun _ h9 => h9) rfl (by decide +kernel) rfl rfl (Nat.le_of_ble_eq_true rfl) d_R_run_2 (fun H locs hP hD hS => ?_)
  have hP : va_P D classes ([(h0, .inr (1, [.long ra, .long rb, .long rc, .long rx, .long ry, .long rz, .int (0 : Int32)]))] ++ wt) H := hP
  have hD : va_D A ([(h0, .inr (1, [.long ra, .long rb, .long rc, .long rx, .long ry, .long rz, .int (0 : Int32)]))] ++ wt) := hD
  refine lv_iconst (v := (0 : Int32)) hx hb d_R_run_5 (by decide) ?_
  refine lv_istore_n (lv' := [(1, .int (0 : Int32)), (0, .ref h0)]) hx hb d_R_run_6 rfl hl (by decide) rfl (fun ls hl => ?_)
  have L_7 : ∀ (n : Nat) (tu : Int32) (ra : Int64) (rb : Int64) (rc : Int64) (rx : Int64) (ry : Int64) (rz : Int64) (rs : Int32) , lp_R_run_7  n tu ra rb rc rx ry rz rs = some r0 → ∀ (H : Heap) (locs : List Loc), va_P D classes ([(h0, .inr (1, [.long ra, .long rb, .long rc, .long rx, .long ry, .long rz, .int rs]))] ++ wt) H → va_D A ([(h0, .inr (1, [.long ra, .long rb, .long rc, .long rx, .long ry, .long rz, .int rs]))] ++ wt) → va_S A s.heap H locs → ∀ (ls : Array Slot), lv_has ls 2 [(1, .int tu), (0, .ref h0)] → W p l e (headSpec w_R_run rm_R_run).room s m ([.ref h0] : List Value).toArray below meth c H locs 0 0 (MQ below (va_Qv (fun u => u = r0) (fun (u : Int64 × Int64 × Int64 × Int64 × Int64 × Int64 × Int32) t => match u with | (ra', rb', rc', rx', ry', rz', rs') => va_P D classes ([(h0, .inr (1, [.long ra', .long rb', .long rc', .long rx', .long ry', .long rz', .int rs']))] ++ wt) t.heap ∧ va_D A ([(h0, .inr (1, [.long ra', .long rb', .long rc', .long rx', .long ry', .long rz', .int rs']))] ++ wt)) A) ([.ref h0] : List Value).toArray s 0 0 A) (F0 m 7 ls []) := by
    intro n
    induction n with
    | zero =>
      intro tu ra rb rc rx ry rz rs  h
      rw [lp_R_run_7] at h
      cases h
    | succ n ih =>
      intro tu ra rb rc rx ry rz rs  h H locs hP hD hS ls hl
      rw [lp_R_run_7] at h
      refine lv_iload_n hx hb d_R_run_7 rfl (lv_at hl 0 rfl) ?_
      refine lv_ldc (v := (1000000 : Int32)) hx hb hown (htg _ tm_183) d_R_run_8 ?_
      refine lv_icmp_ge (tgt := 76) hx hb d_R_run_10 (by decide) (fun c_1 => ?_) (fun c_1 => ?_)
      · rw [if_pos c_1] at h
        exact W.vret hx hb hr (fun t ht hW => ⟨⟨(ra, rb, rc, rx, ry, rz, rs), rfl, (Option.some.inj h), by rw [ht]; exact hP, hD⟩, hS.F ht⟩) hS.2.2 d_R_run_76
      · rw [if_neg c_1] at h
        refine lv_aload_n hx hb d_R_run_13 rfl (lv_at hl 1 rfl) ?_
        obtain ⟨⟨ra_2, rb_3, rc_4, rx_5, ry_6, rz_7, rs_8⟩, e_9⟩ : ∃ v, f_R_ord1 ra rb rc rx ry rz rs = v := ⟨_, rfl⟩
        rw [e_9, bnd_eq] at h
        try dsimp only at h
        refine va_callv (va_runV (As := []) (rest := []) ⟨hx, hb, hml, hown, htg⟩ (c_R_ord1 l D ct A ([] ++ wt)  h0 ra rb rc rx ry rz rs  _ e_9) (cwV 0 htg (giV tm_184 tm_186 tm_0 tm_32 g_R_ord1) rfl rfl rfl (by decide +kernel) ⟨Nat.le_of_ble_eq_true rfl, Nat.le_of_ble_eq_true rfl⟩) (preVM hA hS hP hD hKK (va_recv hK hP (ci := 1) (q0 := 0) rfl rfl)) rfl rfl hl.1 rfl (lv_room (Nat.le_of_ble_eq_true rfl)) d_R_run_14 ⟨Nat.le_of_ble_eq_true rfl, Nat.le_of_ble_eq_true rfl⟩) hS (fun q _ h9 => h9) (fun q h9 => h9) (fun u9 t9 H locs ht9 hvm9 hw9 hB9 hz9 hk9 hS => ?_)
        rw [hw9] at hB9
        obtain ⟨hP, hD⟩ := hB9
        rw [ht9] at hP
        have hP : va_P D classes ([(h0, .inr (1, [.long ra_2, .long rb_3, .long rc_4, .long rx_5, .long ry_6, .long rz_7, .int rs_8]))] ++ wt) H := hP
        have hD : va_D A ([(h0, .inr (1, [.long ra_2, .long rb_3, .long rc_4, .long rx_5, .long ry_6, .long rz_7, .int rs_8]))] ++ wt) := hD
        refine lv_aload_n hx hb d_R_run_17 rfl (lv_at hl 1 rfl) ?_
        obtain ⟨⟨r_10, ra_11, rb_12, rc_13, rx_14, ry_15, rz_16, rs_17⟩, e_18⟩ : ∃ v, f_R_ord2 ra_2 rb_3 rc_4 rx_5 ry_6 rz_7 rs_8 = v := ⟨_, rfl⟩
        rw [e_18, bnd_eq] at h
        try dsimp only at h
        refine va_calli (va_runV (As := []) (rest := []) ⟨hx, hb, hml, hown, htg⟩ (c_R_ord2 l D ct A ([] ++ wt)  h0 ra_2 rb_3 rc_4 rx_5 ry_6 rz_7 rs_8  _ e_18) (cwV 0 htg (giV tm_191 tm_193 tm_1 tm_32 g_R_ord2) rfl rfl rfl (by decide +kernel) ⟨Nat.le_of_ble_eq_true rfl, Nat.le_of_ble_eq_true rfl⟩) (preVM hA hS hP hD hKK (va_recv hK hP (ci := 1) (q0 := 0) rfl rfl)) rfl rfl hl.1 rfl (lv_room (Nat.le_of_ble_eq_true rfl)) d_R_run_18 ⟨Nat.le_of_ble_eq_true rfl, Nat.le_of_ble_eq_true rfl⟩) hS (fun q _ h9 => h9) (fun q h9 => h9) (fun r9 u9 t9 H locs ht9 hvm9 hw9 hB9 hz9 hk9 hS => ?_)
        obtain ⟨hw8, hw9⟩ := Prod.mk.inj hw9
        rw [hw8]
        rw [hw9] at hB9
        obtain ⟨hP, hD⟩ := hB9
        rw [ht9] at hP
        have hP : va_P D classes ([(h0, .inr (1, [.long ra_11, .long rb_12, .long rc_13, .long rx_14, .long ry_15, .long rz_16, .int rs_17]))] ++ wt) H := hP
        have hD : va_D A ([(h0, .inr (1, [.long ra_11, .long rb_12, .long rc_13, .long rx_14, .long ry_15, .long rz_16, .int rs_17]))] ++ wt) := hD
        refine lv_if_eq (tgt := 27) hx hb d_R_run_21 (by decide) (fun c_19 => ?_) (fun c_19 => ?_)
        · rw [if_pos c_19] at h
          refine lv_aload_n hx hb d_R_run_27 rfl (lv_at hl 1 rfl) ?_
          obtain ⟨⟨ra_20, rb_21, rc_22, rx_23, ry_24, rz_25, rs_26⟩, e_27⟩ : ∃ v, f_R_align ra_11 rb_12 rc_13 rx_14 ry_15 rz_16 rs_17 = v := ⟨_, rfl⟩
          rw [e_27, bnd_eq] at h
          try dsimp only at h
          refine va_callv (va_runV (As := []) (rest := []) ⟨hx, hb, hml, hown, htg⟩ (c_R_align l D ct A ([] ++ wt)  h0 ra_11 rb_12 rc_13 rx_14 ry_15 rz_16 rs_17  _ e_27) (cwV 0 htg (giV tm_195 tm_197 tm_2 tm_32 g_R_align) rfl rfl rfl (by decide +kernel) ⟨Nat.le_of_ble_eq_true rfl, Nat.le_of_ble_eq_true rfl⟩) (preVM hA hS hP hD hKK (va_recv hK hP (ci := 1) (q0 := 0) rfl rfl)) rfl rfl hl.1 rfl (lv_room (Nat.le_of_ble_eq_true rfl)) d_R_run_28 ⟨Nat.le_of_ble_eq_true rfl, Nat.le_of_ble_eq_true rfl⟩) hS (fun q _ h9 => h9) (fun q h9 => h9) (fun u9 t9 H locs ht9 hvm9 hw9 hB9 hz9 hk9 hS => ?_)
          rw [hw9] at hB9
          obtain ⟨hP, hD⟩ := hB9
          rw [ht9] at hP
          have hP : va_P D classes ([(h0, .inr (1, [.long ra_20, .long rb_21, .long rc_22, .long rx_23, .long ry_24, .long rz_25, .int rs_26]))] ++ wt) H := hP
          have hD : va_D A ([(h0, .inr (1, [.long ra_20, .long rb_21, .long rc_22, .long rx_23, .long ry_24, .long rz_25, .int rs_26]))] ++ wt) := hD
          refine lv_aload_n hx hb d_R_run_31 rfl (lv_at hl 1 rfl) ?_
          obtain ⟨⟨r_28, ra_29, rb_30, rc_31, rx_32, ry_33, rz_34, rs_35⟩, e_36⟩ : ∃ v, f_R_shX ra_20 rb_21 rc_22 rx_23 ry_24 rz_25 rs_26 = v := ⟨_, rfl⟩
          rw [e_36, bnd_eq] at h
          try dsimp only at h
          refine va_calli (va_runV (As := []) (rest := []) ⟨hx, hb, hml, hown, htg⟩ (c_R_shX l D ct A ([] ++ wt)  h0 ra_20 rb_21 rc_22 rx_23 ry_24 rz_25 rs_26  _ e_36) (cwV 0 htg (giV tm_202 tm_204 tm_3 tm_32 g_R_shX) rfl rfl rfl (by decide +kernel) ⟨Nat.le_of_ble_eq_true rfl, Nat.le_of_ble_eq_true rfl⟩) (preVM hA hS hP hD hKK (va_recv hK hP (ci := 1) (q0 := 0) rfl rfl)) rfl rfl hl.1 rfl (lv_room (Nat.le_of_ble_eq_true rfl)) d_R_run_32 ⟨Nat.le_of_ble_eq_true rfl, Nat.le_of_ble_eq_true rfl⟩) hS (fun q _ h9 => h9) (fun q h9 => h9) (fun r9 u9 t9 H locs ht9 hvm9 hw9 hB9 hz9 hk9 hS => ?_)
          obtain ⟨hw8, hw9⟩ := Prod.mk.inj hw9
          rw [hw8]
          rw [hw9] at hB9
          obtain ⟨hP, hD⟩ := hB9
          rw [ht9] at hP
          have hP : va_P D classes ([(h0, .inr (1, [.long ra_29, .long rb_30, .long rc_31, .long rx_32, .long ry_33, .long rz_34, .int rs_35]))] ++ wt) H := hP
          have hD : va_D A ([(h0, .inr (1, [.long ra_29, .long rb_30, .long rc_31, .long rx_32, .long ry_33, .long rz_34, .int rs_35]))] ++ wt) := hD
          refine lv_if_ne (tgt := 60) hx hb d_R_run_35 (by decide) (fun c_37 => ?_) (fun c_37 => ?_)
          · rw [if_neg c_37] at h
            refine lv_aload_n hx hb d_R_run_60 rfl (lv_at hl 1 rfl) ?_
            refine lv_dup hx hb d_R_run_61 rfl ?_
            refine va_get (D := D) (ci := 1) (v := .int rs_35) (C := R_Reducer) (T := F_Reducer) (N := 7) hx hb htg i_Reducer hown hK hP 0 rfl rfl 6 (by decide) (htg _ tm_62) (fun _ h9 => h9) rfl d_R_run_62 ?_
            refine lv_iconst (v := (1 : Int32)) hx hb d_R_run_65 (by decide) ?_
            refine lv_iadd hx hb d_R_run_66 ?_
            refine va_put (D := D) (ci := 1) (v := .int (rs_35 + (1 : Int32))) (ty := .int) (C := R_Reducer) (T := F_Reducer) (N := 7) hx hb htg i_Reducer t_Reducer t_Reducer_ok n_Reducer hown hK hP hD hS 0 rfl rfl 6 (by decide) (htg _ tm_62) (fun _ h9 => h9) rfl (by decide +kernel) rfl rfl (Nat.le_of_ble_eq_true rfl) d_R_run_67 (fun H locs hP hD hS => ?_)
            have hP : va_P D classes ([(h0, .inr (1, [.long ra_29, .long rb_30, .long rc_31, .long rx_32, .long ry_33, .long rz_34, .int (rs_35 + (1 : Int32))]))] ++ wt) H := hP
            have hD : va_D A ([(h0, .inr (1, [.long ra_29, .long rb_30, .long rc_31, .long rx_32, .long ry_33, .long rz_34, .int (rs_35 + (1 : Int32))]))] ++ wt) := hD
            refine lv_iinc (v := tu + (1 : Int32)) (lv' := [(1, .int (tu + (1 : Int32))), (0, .ref h0)]) hx hb d_R_run_70 hl (k := 0) rfl rfl (by decide) rfl (fun ls hl => ?_)
            refine lv_goto (tgt := 7) hx hb d_R_run_73 (by decide) ?_
            exact ih (tu + (1 : Int32)) ra_29 rb_30 rc_31 rx_32 ry_33 rz_34 (rs_35 + (1 : Int32)) h H locs hP hD hS ls (lv_sub hl [0, 1] rfl)
          · rw [if_pos c_37] at h
            refine lv_aload_n hx hb d_R_run_38 rfl (lv_at hl 1 rfl) ?_
            obtain ⟨⟨r_38, ra_39, rb_40, rc_41, rx_42, ry_43, rz_44, rs_45⟩, e_46⟩ : ∃ v, f_R_shY ra_29 rb_30 rc_31 rx_32 ry_33 rz_34 rs_35 = v := ⟨_, rfl⟩
            rw [e_46, bnd_eq] at h
            try dsimp only at h
            refine va_calli (va_runV (As := []) (rest := []) ⟨hx, hb, hml, hown, htg⟩ (c_R_shY l D ct A ([] ++ wt)  h0 ra_29 rb_30 rc_31 rx_32 ry_33 rz_34 rs_35  _ e_46) (cwV 0 htg (giV tm_206 tm_208 tm_4 tm_32 g_R_shY) rfl rfl rfl (by decide +kernel) ⟨Nat.le_of_ble_eq_true rfl, Nat.le_of_ble_eq_true rfl⟩) (preVM hA hS hP hD hKK (va_recv hK hP (ci := 1) (q0 := 0) rfl rfl)) rfl rfl hl.1 rfl (lv_room (Nat.le_of_ble_eq_true rfl)) d_R_run_39 ⟨Nat.le_of_ble_eq_true rfl, Nat.le_of_ble_eq_true rfl⟩) hS (fun q _ h9 => h9) (fun q h9 => h9) (fun r9 u9 t9 H locs ht9 hvm9 hw9 hB9 hz9 hk9 hS => ?_)
            obtain ⟨hw8, hw9⟩ := Prod.mk.inj hw9
            rw [hw8]
            rw [hw9] at hB9
            obtain ⟨hP, hD⟩ := hB9
            rw [ht9] at hP
            have hP : va_P D classes ([(h0, .inr (1, [.long ra_39, .long rb_40, .long rc_41, .long rx_42, .long ry_43, .long rz_44, .int rs_45]))] ++ wt) H := hP
            have hD : va_D A ([(h0, .inr (1, [.long ra_39, .long rb_40, .long rc_41, .long rx_42, .long ry_43, .long rz_44, .int rs_45]))] ++ wt) := hD
            refine lv_if_ne (tgt := 60) hx hb d_R_run_42 (by decide) (fun c_47 => ?_) (fun c_47 => ?_)
            · rw [if_neg c_47] at h
              refine lv_aload_n hx hb d_R_run_60 rfl (lv_at hl 1 rfl) ?_
              refine lv_dup hx hb d_R_run_61 rfl ?_
              refine va_get (D := D) (ci := 1) (v := .int rs_45) (C := R_Reducer) (T := F_Reducer) (N := 7) hx hb htg i_Reducer hown hK hP 0 rfl rfl 6 (by decide) (htg _ tm_62) (fun _ h9 => h9) rfl d_R_run_62 ?_
              refine lv_iconst (v := (1 : Int32)) hx hb d_R_run_65 (by decide) ?_
              refine lv_iadd hx hb d_R_run_66 ?_
              refine va_put (D := D) (ci := 1) (v := .int (rs_45 + (1 : Int32))) (ty := .int) (C := R_Reducer) (T := F_Reducer) (N := 7) hx hb htg i_Reducer t_Reducer t_Reducer_ok n_Reducer hown hK hP hD hS 0 rfl rfl 6 (by decide) (htg _ tm_62) (fun _ h9 => h9) rfl (by decide +kernel) rfl rfl (Nat.le_of_ble_eq_true rfl) d_R_run_67 (fun H locs hP hD hS => ?_)
              have hP : va_P D classes ([(h0, .inr (1, [.long ra_39, .long rb_40, .long rc_41, .long rx_42, .long ry_43, .long rz_44, .int (rs_45 + (1 : Int32))]))] ++ wt) H := hP
              have hD : va_D A ([(h0, .inr (1, [.long ra_39, .long rb_40, .long rc_41, .long rx_42, .long ry_43, .long rz_44, .int (rs_45 + (1 : Int32))]))] ++ wt) := hD
              refine lv_iinc (v := tu + (1 : Int32)) (lv' := [(1, .int (tu + (1 : Int32))), (0, .ref h0)]) hx hb d_R_run_70 hl (k := 0) rfl rfl (by decide) rfl (fun ls hl => ?_)
              refine lv_goto (tgt := 7) hx hb d_R_run_73 (by decide) ?_
              exact ih (tu + (1 : Int32)) ra_39 rb_40 rc_41 rx_42 ry_43 rz_44 (rs_45 + (1 : Int32)) h H locs hP hD hS ls (lv_sub hl [0, 1] rfl)
            · rw [if_pos c_47] at h
              refine lv_aload_n hx hb d_R_run_45 rfl (lv_at hl 1 rfl) ?_
              obtain ⟨⟨r_48, ra_49, rb_50, rc_51, rx_52, ry_53, rz_54, rs_55⟩, e_56⟩ : ∃ v, f_R_shZ ra_39 rb_40 rc_41 rx_42 ry_43 rz_44 rs_45 = v := ⟨_, rfl⟩
              rw [e_56, bnd_eq] at h
              try dsimp only at h
              refine va_calli (va_runV (As := []) (rest := []) ⟨hx, hb, hml, hown, htg⟩ (c_R_shZ l D ct A ([] ++ wt)  h0 ra_39 rb_40 rc_41 rx_42 ry_43 rz_44 rs_45  _ e_56) (cwV 0 htg (giV tm_210 tm_212 tm_5 tm_32 g_R_shZ) rfl rfl rfl (by decide +kernel) ⟨Nat.le_of_ble_eq_true rfl, Nat.le_of_ble_eq_true rfl⟩) (preVM hA hS hP hD hKK (va_recv hK hP (ci := 1) (q0 := 0) rfl rfl)) rfl rfl hl.1 rfl (lv_room (Nat.le_of_ble_eq_true rfl)) d_R_run_46 ⟨Nat.le_of_ble_eq_true rfl, Nat.le_of_ble_eq_true rfl⟩) hS (fun q _ h9 => h9) (fun q h9 => h9) (fun r9 u9 t9 H locs ht9 hvm9 hw9 hB9 hz9 hk9 hS => ?_)
              obtain ⟨hw8, hw9⟩ := Prod.mk.inj hw9
              rw [hw8]
              rw [hw9] at hB9
              obtain ⟨hP, hD⟩ := hB9
              rw [ht9] at hP
              have hP : va_P D classes ([(h0, .inr (1, [.long ra_49, .long rb_50, .long rc_51, .long rx_52, .long ry_53, .long rz_54, .int rs_55]))] ++ wt) H := hP
              have hD : va_D A ([(h0, .inr (1, [.long ra_49, .long rb_50, .long rc_51, .long rx_52, .long ry_53, .long rz_54, .int rs_55]))] ++ wt) := hD
              refine lv_if_ne (tgt := 60) hx hb d_R_run_49 (by decide) (fun c_57 => ?_) (fun c_57 => ?_)
              · rw [if_neg c_57] at h
                refine lv_aload_n hx hb d_R_run_60 rfl (lv_at hl 1 rfl) ?_
                refine lv_dup hx hb d_R_run_61 rfl ?_
                refine va_get (D := D) (ci := 1) (v := .int rs_55) (C := R_Reducer) (T := F_Reducer) (N := 7) hx hb htg i_Reducer hown hK hP 0 rfl rfl 6 (by decide) (htg _ tm_62) (fun _ h9 => h9) rfl d_R_run_62 ?_
                refine lv_iconst (v := (1 : Int32)) hx hb d_R_run_65 (by decide) ?_
                refine lv_iadd hx hb d_R_run_66 ?_
                refine va_put (D := D) (ci := 1) (v := .int (rs_55 + (1 : Int32))) (ty := .int) (C := R_Reducer) (T := F_Reducer) (N := 7) hx hb htg i_Reducer t_Reducer t_Reducer_ok n_Reducer hown hK hP hD hS 0 rfl rfl 6 (by decide) (htg _ tm_62) (fun _ h9 => h9) rfl (by decide +kernel) rfl rfl (Nat.le_of_ble_eq_true rfl) d_R_run_67 (fun H locs hP hD hS => ?_)
                have hP : va_P D classes ([(h0, .inr (1, [.long ra_49, .long rb_50, .long rc_51, .long rx_52, .long ry_53, .long rz_54, .int (rs_55 + (1 : Int32))]))] ++ wt) H := hP
                have hD : va_D A ([(h0, .inr (1, [.long ra_49, .long rb_50, .long rc_51, .long rx_52, .long ry_53, .long rz_54, .int (rs_55 + (1 : Int32))]))] ++ wt) := hD
                refine lv_iinc (v := tu + (1 : Int32)) (lv' := [(1, .int (tu + (1 : Int32))), (0, .ref h0)]) hx hb d_R_run_70 hl (k := 0) rfl rfl (by decide) rfl (fun ls hl => ?_)
                refine lv_goto (tgt := 7) hx hb d_R_run_73 (by decide) ?_
                exact ih (tu + (1 : Int32)) ra_49 rb_50 rc_51 rx_52 ry_53 rz_54 (rs_55 + (1 : Int32)) h H locs hP hD hS ls (lv_sub hl [0, 1] rfl)
              · rw [if_pos c_57] at h
                refine lv_aload_n hx hb d_R_run_52 rfl (lv_at hl 1 rfl) ?_
                obtain ⟨⟨r_58, ra_59, rb_60, rc_61, rx_62, ry_63, rz_64, rs_65⟩, e_66⟩ : ∃ v, f_R_shS ra_49 rb_50 rc_51 rx_52 ry_53 rz_54 rs_55 = v := ⟨_, rfl⟩
                rw [e_66, bnd_eq] at h
                try dsimp only at h
                refine va_calli (va_runV (As := []) (rest := []) ⟨hx, hb, hml, hown, htg⟩ (c_R_shS l D ct A ([] ++ wt)  h0 ra_49 rb_50 rc_51 rx_52 ry_53 rz_54 rs_55  _ e_66) (cwV 0 htg (giV tm_214 tm_216 tm_6 tm_32 g_R_shS) rfl rfl rfl (by decide +kernel) ⟨Nat.le_of_ble_eq_true rfl, Nat.le_of_ble_eq_true rfl⟩) (preVM hA hS hP hD hKK (va_recv hK hP (ci := 1) (q0 := 0) rfl rfl)) rfl rfl hl.1 rfl (lv_room (Nat.le_of_ble_eq_true rfl)) d_R_run_53 ⟨Nat.le_of_ble_eq_true rfl, Nat.le_of_ble_eq_true rfl⟩) hS (fun q _ h9 => h9) (fun q h9 => h9) (fun r9 u9 t9 H locs ht9 hvm9 hw9 hB9 hz9 hk9 hS => ?_)
                obtain ⟨hw8, hw9⟩ := Prod.mk.inj hw9
                rw [hw8]
                rw [hw9] at hB9
                obtain ⟨hP, hD⟩ := hB9
                rw [ht9] at hP
                have hP : va_P D classes ([(h0, .inr (1, [.long ra_59, .long rb_60, .long rc_61, .long rx_62, .long ry_63, .long rz_64, .int rs_65]))] ++ wt) H := hP
                have hD : va_D A ([(h0, .inr (1, [.long ra_59, .long rb_60, .long rc_61, .long rx_62, .long ry_63, .long rz_64, .int rs_65]))] ++ wt) := hD
                refine lv_if_ne (tgt := 60) hx hb d_R_run_56 (by decide) (fun c_67 => ?_) (fun c_67 => ?_)
                · rw [if_neg c_67] at h
                  refine lv_aload_n hx hb d_R_run_60 rfl (lv_at hl 1 rfl) ?_
                  refine lv_dup hx hb d_R_run_61 rfl ?_
                  refine va_get (D := D) (ci := 1) (v := .int rs_65) (C := R_Reducer) (T := F_Reducer) (N := 7) hx hb htg i_Reducer hown hK hP 0 rfl rfl 6 (by decide) (htg _ tm_62) (fun _ h9 => h9) rfl d_R_run_62 ?_
                  refine lv_iconst (v := (1 : Int32)) hx hb d_R_run_65 (by decide) ?_
                  refine lv_iadd hx hb d_R_run_66 ?_
                  refine va_put (D := D) (ci := 1) (v := .int (rs_65 + (1 : Int32))) (ty := .int) (C := R_Reducer) (T := F_Reducer) (N := 7) hx hb htg i_Reducer t_Reducer t_Reducer_ok n_Reducer hown hK hP hD hS 0 rfl rfl 6 (by decide) (htg _ tm_62) (fun _ h9 => h9) rfl (by decide +kernel) rfl rfl (Nat.le_of_ble_eq_true rfl) d_R_run_67 (fun H locs hP hD hS => ?_)
                  have hP : va_P D classes ([(h0, .inr (1, [.long ra_59, .long rb_60, .long rc_61, .long rx_62, .long ry_63, .long rz_64, .int (rs_65 + (1 : Int32))]))] ++ wt) H := hP
                  have hD : va_D A ([(h0, .inr (1, [.long ra_59, .long rb_60, .long rc_61, .long rx_62, .long ry_63, .long rz_64, .int (rs_65 + (1 : Int32))]))] ++ wt) := hD
                  refine lv_iinc (v := tu + (1 : Int32)) (lv' := [(1, .int (tu + (1 : Int32))), (0, .ref h0)]) hx hb d_R_run_70 hl (k := 0) rfl rfl (by decide) rfl (fun ls hl => ?_)
                  refine lv_goto (tgt := 7) hx hb d_R_run_73 (by decide) ?_
                  exact ih (tu + (1 : Int32)) ra_59 rb_60 rc_61 rx_62 ry_63 rz_64 (rs_65 + (1 : Int32)) h H locs hP hD hS ls (lv_sub hl [0, 1] rfl)
                · rw [if_pos c_67] at h
                  exact W.vret hx hb hr (fun t ht hW => ⟨⟨(ra_59, rb_60, rc_61, rx_62, ry_63, rz_64, rs_65), rfl, (Option.some.inj h), by rw [ht]; exact hP, hD⟩, hS.F ht⟩) hS.2.2 d_R_run_59
        · rw [if_neg c_19] at h
          refine lv_goto (tgt := 70) hx hb d_R_run_24 (by decide) ?_
          refine lv_iinc (v := tu + (1 : Int32)) (lv' := [(1, .int (tu + (1 : Int32))), (0, .ref h0)]) hx hb d_R_run_70 hl (k := 0) rfl rfl (by decide) rfl (fun ls hl => ?_)
          refine lv_goto (tgt := 7) hx hb d_R_run_73 (by decide) ?_
          exact ih (tu + (1 : Int32)) ra_11 rb_12 rc_13 rx_14 ry_15 rz_16 rs_17 h H locs hP hD hS ls (lv_sub hl [0, 1] rfl)
  exact L_7 1000001 (0 : Int32) ra rb rc rx ry rz (0 : Int32) h _ _ hP hD hS ls (lv_sub hl [0, 1] rfl)
-- CellBench$Reducer reduce (LCellBench$Products;)V
def f_R_reduce (ra : Int64) (rb : Int64) (rc : Int64) (rx : Int64) (ry : Int64) (rz : Int64) (rs : Int32) (fa : Int64) (fb : Int64) (fc : Int64) (fd : Int64) (fe : Int64) (ff : Int64) : Option (Int64 × Int64 × Int64 × Int64 × Int64 × Int64 × Int32) :=
    bnd (f_R_setSq ra rb rc rx ry rz rs fa fb fc) (fun z_27 => (bnd (f_R_setMx z_27.1 z_27.2.1 z_27.2.2.1 z_27.2.2.2.1 z_27.2.2.2.2.1 z_27.2.2.2.2.2.1 z_27.2.2.2.2.2.2 fd fe ff) (fun z_26 => (Option.bind (f_R_run z_26.1 z_26.2.1 z_26.2.2.1 z_26.2.2.2.1 z_26.2.2.2.2.1 z_26.2.2.2.2.2.1 z_26.2.2.2.2.2.2) (fun z_25 => (some (z_25.1, z_25.2.1, z_25.2.2.1, z_25.2.2.2.1, z_25.2.2.2.2.1, z_25.2.2.2.2.2.1, z_25.2.2.2.2.2.2)))))))
def w_R_reduce : List Cond := .code y_R_reduce b_R_reduce 2 none :: GW
abbrev rm_R_reduce : Room := { frames := 3, cells := 0, slots := 0, locals := 66 }
theorem g_R_reduce : GoodIn GW w_R_reduce := gi tm_169
set_option maxHeartbeats 4000000 in
set_option maxRecDepth 100000 in
theorem c_R_reduce (l : Launch) (D : va_G) (ct : CT) (A : Nat → Prop) (wt : va_W) (k1 : Nat) (h0 : Nat) (ra : Int64) (rb : Int64) (rc : Int64) (rx : Int64) (ry : Int64) (rz : Int64) (rs : Int32) (h1 : Nat) (fa : Int64) (fb : Int64) (fc : Int64) (fd : Int64) (fe : Int64) (ff : Int64) (hk1 : wt[k1]? = some (h1, .inr (0, [.long fa, .long fb, .long fc, .long fd, .long fe, .long ff])))  (r0 : Int64 × Int64 × Int64 × Int64 × Int64 × Int64 × Int32) (h : f_R_reduce ra rb rc rx ry rz rs fa fb fc fd fe ff = some r0) : Met l y_R_reduce w_R_reduce rm_R_reduce (va_Pc [.ref h0, .ref h1] (PreM D ct A ([(h0, .inr (1, [.long ra, .long rb, .long rc, .long rx, .long ry, .long rz, .int rs]))] ++ wt))) (va_Qv (fun u => u = r0) (fun (u : Int64 × Int64 × Int64 × Int64 × Int64 × Int64 × Int32) t => match u with | (ra', rb', rc', rx', ry', rz', rs') => va_P D classes ([(h0, .inr (1, [.long ra', .long rb', .long rc', .long rx', .long ry', .long rz', .int rs']))] ++ wt) t.heap ∧ va_D A ([(h0, .inr (1, [.long ra', .long rb', .long rc', .long rx', .long ry', .long rz', .int rs']))] ++ wt)) A) 0 0 A := by
  refine Met.ofW (cc := b_R_reduce) (maxL := 2) (ret := none) (by decide) rfl ?_
  intro p e s m args below meth c s₁ B hml hv
  obtain ⟨rfl, hA, hP, hD, hKK⟩ := hv
  have hx := B.exec
  have hb := B.bytes
  have hr := B.returns
  have htg := ht_tl (atoms_spec (ws := w_R_reduce) B.pre)
  have hown : s.vm.findClass R_Reducer = some m.cls := findClass_of_methodNamed B.named
  have hlocks := B.notSynchronized
  have hK := hKK.1
  have hN := hKK.2.1
  have hO := hKK.2.2
  have hS : va_S A s.heap s.heap [] := va_S.rf
  have hl := lv_entry ([.ref h0, .ref h1]) (n := 2) (Nat.le_of_ble_eq_true rfl)
  rw [lg_entry_eq]
  generalize (lg_sl ([.ref h0, .ref h1]) ++ List.replicate (2 - (lg_sl ([.ref h0, .ref h1])).length) Slot.unset).toArray = ls at hl ⊢
  have hl : lv_has ls 2 [(0, .ref h0), (1, .ref h1)] := hl
  unfold f_R_reduce at h
  refine lv_aload_n hx hb d_R_reduce_0 rfl (lv_at hl 0 rfl) ?_
  refine lv_aload_n hx hb d_R_reduce_1 rfl (lv_at hl 1 rfl) ?_
  refine va_getN (D := D) (ci := 0) (v := .long fa) (C := R_Products) (T := F_Products) (N := 6) hx hb htg i_Products hown hK hP (k1 + 1) hk1 rfl 0 (by decide) (va_Nw.use rfl (hN.of nm_0)) (fun _ h9 => h9) rfl d_R_reduce_2 ?_
  refine lv_aload_n hx hb d_R_reduce_5 rfl (lv_at hl 1 rfl) ?_
  refine va_getN (D := D) (ci := 0) (v := .long fb) (C := R_Products) (T := F_Products) (N := 6) hx hb htg i_Products hown hK hP (k1 + 1) hk1 rfl 1 (by decide) (va_Nw.use rfl (hN.of nm_1)) (fun _ h9 => h9) rfl d_R_reduce_6 ?_
  refine lv_aload_n hx hb d_R_reduce_9 rfl (lv_at hl 1 rfl) ?_
  refine va_getN (D := D) (ci := 0) (v := .long fc) (C := R_Products) (T := F_Products) (N := 6) hx hb htg i_Products hown hK hP (k1 + 1) hk1 rfl 2 (by decide) (va_Nw.use rfl (hN.of nm_2)) (fun _ h9 => h9) rfl d_R_reduce_10 ?_
  obtain ⟨⟨ra_1, rb_2, rc_3, rx_4, ry_5, rz_6, rs_7⟩, e_8⟩ : ∃ v, f_R_setSq ra rb rc rx ry rz rs fa fb fc = v := ⟨_, rfl⟩
  rw [e_8, bnd_eq] at h
  try dsimp only at h
  refine va_callv (va_runV (As := [.long fa, .long fb, .long fc]) (rest := []) ⟨hx, hb, hml, hown, htg⟩ (c_R_setSq l D ct A ([] ++ wt)  h0 ra rb rc rx ry rz rs fa fb fc  _ e_8) (cwV 3 htg (giV tm_170 tm_171 tm_172 tm_32 g_R_setSq) rfl rfl rfl (by decide +kernel) ⟨Nat.le_of_ble_eq_true rfl, Nat.le_of_ble_eq_true rfl⟩) (preVM hA hS hP hD hKK (va_recv hK hP (ci := 1) (q0 := 0) rfl rfl)) rfl rfl hl.1 rfl (lv_room (Nat.le_of_ble_eq_true rfl)) d_R_reduce_13 ⟨Nat.le_of_ble_eq_true rfl, Nat.le_of_ble_eq_true rfl⟩) hS (fun q _ h9 => h9) (fun q h9 => h9) (fun u9 t9 H locs ht9 hvm9 hw9 hB9 hz9 hk9 hS => ?_)
  rw [hw9] at hB9
  obtain ⟨hP, hD⟩ := hB9
  rw [ht9] at hP
  have hP : va_P D classes ([(h0, .inr (1, [.long ra_1, .long rb_2, .long rc_3, .long rx_4, .long ry_5, .long rz_6, .int rs_7]))] ++ wt) H := hP
  have hD : va_D A ([(h0, .inr (1, [.long ra_1, .long rb_2, .long rc_3, .long rx_4, .long ry_5, .long rz_6, .int rs_7]))] ++ wt) := hD
  refine lv_aload_n hx hb d_R_reduce_16 rfl (lv_at hl 0 rfl) ?_
  refine lv_aload_n hx hb d_R_reduce_17 rfl (lv_at hl 1 rfl) ?_
  refine va_getN (D := D) (ci := 0) (v := .long fd) (C := R_Products) (T := F_Products) (N := 6) hx hb htg i_Products hown hK hP (k1 + 1) hk1 rfl 3 (by decide) (va_Nw.use rfl (hN.of nm_3)) (fun _ h9 => h9) rfl d_R_reduce_18 ?_
  refine lv_aload_n hx hb d_R_reduce_21 rfl (lv_at hl 1 rfl) ?_
  refine va_getN (D := D) (ci := 0) (v := .long fe) (C := R_Products) (T := F_Products) (N := 6) hx hb htg i_Products hown hK hP (k1 + 1) hk1 rfl 4 (by decide) (va_Nw.use rfl (hN.of nm_4)) (fun _ h9 => h9) rfl d_R_reduce_22 ?_
  refine lv_aload_n hx hb d_R_reduce_25 rfl (lv_at hl 1 rfl) ?_
  refine va_getN (D := D) (ci := 0) (v := .long ff) (C := R_Products) (T := F_Products) (N := 6) hx hb htg i_Products hown hK hP (k1 + 1) hk1 rfl 5 (by decide) (va_Nw.use rfl (hN.of nm_5)) (fun _ h9 => h9) rfl d_R_reduce_26 ?_
  obtain ⟨⟨ra_9, rb_10, rc_11, rx_12, ry_13, rz_14, rs_15⟩, e_16⟩ : ∃ v, f_R_setMx ra_1 rb_2 rc_3 rx_4 ry_5 rz_6 rs_7 fd fe ff = v := ⟨_, rfl⟩
  rw [e_16, bnd_eq] at h
  try dsimp only at h
  refine va_callv (va_runV (As := [.long fd, .long fe, .long ff]) (rest := []) ⟨hx, hb, hml, hown, htg⟩ (c_R_setMx l D ct A ([] ++ wt)  h0 ra_1 rb_2 rc_3 rx_4 ry_5 rz_6 rs_7 fd fe ff  _ e_16) (cwV 3 htg (giV tm_174 tm_175 tm_176 tm_32 g_R_setMx) rfl rfl rfl (by decide +kernel) ⟨Nat.le_of_ble_eq_true rfl, Nat.le_of_ble_eq_true rfl⟩) (preVM hA hS hP hD hKK (va_recv hK hP (ci := 1) (q0 := 0) rfl rfl)) rfl rfl hl.1 rfl (lv_room (Nat.le_of_ble_eq_true rfl)) d_R_reduce_29 ⟨Nat.le_of_ble_eq_true rfl, Nat.le_of_ble_eq_true rfl⟩) hS (fun q _ h9 => h9) (fun q h9 => h9) (fun u9 t9 H locs ht9 hvm9 hw9 hB9 hz9 hk9 hS => ?_)
  rw [hw9] at hB9
  obtain ⟨hP, hD⟩ := hB9
  rw [ht9] at hP
  have hP : va_P D classes ([(h0, .inr (1, [.long ra_9, .long rb_10, .long rc_11, .long rx_12, .long ry_13, .long rz_14, .int rs_15]))] ++ wt) H := hP
  have hD : va_D A ([(h0, .inr (1, [.long ra_9, .long rb_10, .long rc_11, .long rx_12, .long ry_13, .long rz_14, .int rs_15]))] ++ wt) := hD
  refine lv_aload_n hx hb d_R_reduce_32 rfl (lv_at hl 0 rfl) ?_
  rcases e_24 : f_R_run ra_9 rb_10 rc_11 rx_12 ry_13 rz_14 rs_15 with _ | ⟨ra_17, rb_18, rc_19, rx_20, ry_21, rz_22, rs_23⟩
  · rw [e_24] at h; cases h
  rw [e_24, Option.bind_some] at h
  try dsimp only at h
  refine va_callv (va_runV (As := []) (rest := []) ⟨hx, hb, hml, hown, htg⟩ (c_R_run l D ct A ([] ++ wt)  h0 ra_9 rb_10 rc_11 rx_12 ry_13 rz_14 rs_15  _ e_24) (cwV 0 htg (giV tm_179 tm_180 tm_181 tm_32 g_R_run) rfl rfl rfl (by decide +kernel) ⟨Nat.le_of_ble_eq_true rfl, Nat.le_of_ble_eq_true rfl⟩) (preVM hA hS hP hD hKK (va_recv hK hP (ci := 1) (q0 := 0) rfl rfl)) rfl rfl hl.1 rfl (lv_room (Nat.le_of_ble_eq_true rfl)) d_R_reduce_33 ⟨Nat.le_of_ble_eq_true rfl, Nat.le_of_ble_eq_true rfl⟩) hS (fun q _ h9 => h9) (fun q h9 => h9) (fun u9 t9 H locs ht9 hvm9 hw9 hB9 hz9 hk9 hS => ?_)
  rw [hw9] at hB9
  obtain ⟨hP, hD⟩ := hB9
  rw [ht9] at hP
  have hP : va_P D classes ([(h0, .inr (1, [.long ra_17, .long rb_18, .long rc_19, .long rx_20, .long ry_21, .long rz_22, .int rs_23]))] ++ wt) H := hP
  have hD : va_D A ([(h0, .inr (1, [.long ra_17, .long rb_18, .long rc_19, .long rx_20, .long ry_21, .long rz_22, .int rs_23]))] ++ wt) := hD
  exact W.vret hx hb hr (fun t ht hW => ⟨⟨(ra_17, rb_18, rc_19, rx_20, ry_21, rz_22, rs_23), rfl, (Option.some.inj h), by rw [ht]; exact hP, hD⟩, hS.F ht⟩) hS.2.2 d_R_reduce_36
-- CellBench$Reducer result ()LCellBench$Products;
def f_R_result (ra : Int64) (rb : Int64) (rc : Int64) (rx : Int64) (ry : Int64) (rz : Int64) (rs : Int32) : Int64 × Int64 × Int64 × Int64 × Int64 × Int64 :=
    bnd (f_P_init ra rb rc (rx / (2 : Int64)) (ry / (2 : Int64)) (rz / (2 : Int64))) (fun z_9 => (z_9.1, z_9.2.1, z_9.2.2.1, z_9.2.2.2.1, z_9.2.2.2.2.1, z_9.2.2.2.2.2))
def w_R_result : List Cond := .code y_R_result b_R_result 1 (some (.object "CellBench$Products")) :: GW
abbrev rm_R_result : Room := { frames := 2, cells := 1, slots := 6, locals := 44 }
theorem g_R_result : GoodIn GW w_R_result := gi tm_221
set_option maxHeartbeats 4000000 in
set_option maxRecDepth 100000 in
theorem c_R_result (l : Launch) (D : va_G) (ct : CT) (A : Nat → Prop) (wt : va_W)  (h0 : Nat) (ra : Int64) (rb : Int64) (rc : Int64) (rx : Int64) (ry : Int64) (rz : Int64) (rs : Int32)   (r0 : Int64 × Int64 × Int64 × Int64 × Int64 × Int64) (h : f_R_result ra rb rc rx ry rz rs = r0) : Met l y_R_result w_R_result rm_R_result (va_Pc [.ref h0] (PreM D ct A ([(h0, .inr (1, [.long ra, .long rb, .long rc, .long rx, .long ry, .long rz, .int rs]))] ++ wt))) (va_Qr (fun u => u = r0) (fun (u : Int64 × Int64 × Int64 × Int64 × Int64 × Int64) qa t => match u with | (fa', fb', fc', fd', fe', ff') => va_P D classes ([(h0, .inr (1, [.long ra, .long rb, .long rc, .long rx, .long ry, .long rz, .int rs])), (qa, .inr (0, [.long fa', .long fb', .long fc', .long fd', .long fe', .long ff']))] ++ wt) t.heap ∧ va_D A ([(h0, .inr (1, [.long ra, .long rb, .long rc, .long rx, .long ry, .long rz, .int rs])), (qa, .inr (0, [.long fa', .long fb', .long fc', .long fd', .long fe', .long ff']))] ++ wt)) A) 1 6 A := by
  refine Met.ofW (cc := b_R_result) (maxL := 1) (ret := (some (.object "CellBench$Products"))) (by decide) rfl ?_
  intro p e s m args below meth c s₁ B hml hv
  obtain ⟨rfl, hA, hP, hD, hKK⟩ := hv
  have hx := B.exec
  have hb := B.bytes
  have hr := B.returns
  have htg := ht_tl (atoms_spec (ws := w_R_result) B.pre)
  have hown : s.vm.findClass R_Reducer = some m.cls := findClass_of_methodNamed B.named
  have hlocks := B.notSynchronized
  have hK := hKK.1
  have hN := hKK.2.1
  have hO := hKK.2.2
  have hS : va_S A s.heap s.heap [] := va_S.rf
  have hl := lv_entry ([.ref h0]) (n := 1) (Nat.le_of_ble_eq_true rfl)
  rw [lg_entry_eq]
  generalize (lg_sl ([.ref h0]) ++ List.replicate (1 - (lg_sl ([.ref h0])).length) Slot.unset).toArray = ls at hl ⊢
  have hl : lv_has ls 1 [(0, .ref h0)] := hl
  unfold f_R_result at h
  refine va_new (ci := 0) (fs := [.long (0 : Int64), .long (0 : Int64), .long (0 : Int64), .long (0 : Int64), .long (0 : Int64), .long (0 : Int64)]) (C := R_Products) (T := F_Products) (N := 6) hx hb htg i_Products t_Products t_Products_ok hown (htg _ tm_222) (htg _ tm_128) (htg _ tm_35) hK hP hD hS hA rfl (fun j hj => by rcases (show j = 0 ∨ j = 1 ∨ j = 2 ∨ j = 3 ∨ j = 4 ∨ j = 5 by omega) with rfl | rfl | rfl | rfl | rfl | rfl <;> rfl) (Nat.le_of_ble_eq_true rfl) (Nat.le_of_ble_eq_true rfl) d_R_result_0 (fun q_1 H hP hD hS => ?_)
  have hP := hP.swap
  have hD := hD.swap
  have hP : va_P D classes ([(h0, .inr (1, [.long ra, .long rb, .long rc, .long rx, .long ry, .long rz, .int rs])), (q_1, .inr (0, [.long (0 : Int64), .long (0 : Int64), .long (0 : Int64), .long (0 : Int64), .long (0 : Int64), .long (0 : Int64)]))] ++ wt) H := hP
  have hD : va_D A ([(h0, .inr (1, [.long ra, .long rb, .long rc, .long rx, .long ry, .long rz, .int rs])), (q_1, .inr (0, [.long (0 : Int64), .long (0 : Int64), .long (0 : Int64), .long (0 : Int64), .long (0 : Int64), .long (0 : Int64)]))] ++ wt) := hD
  refine W.widen (k := 1) (n := 6) (Nat.le_refl _) (Nat.le_refl _) ?_
  refine lv_dup hx hb d_R_result_3 rfl ?_
  refine lv_aload_n hx hb d_R_result_4 rfl (lv_at hl 0 rfl) ?_
  refine va_get (D := D) (ci := 1) (v := .long ra) (C := R_Reducer) (T := F_Reducer) (N := 7) hx hb htg i_Reducer hown hK hP 0 rfl rfl 0 (by decide) (htg _ tm_56) (fun _ h9 => h9) rfl d_R_result_5 ?_
  refine lv_aload_n hx hb d_R_result_8 rfl (lv_at hl 0 rfl) ?_
  refine va_get (D := D) (ci := 1) (v := .long rb) (C := R_Reducer) (T := F_Reducer) (N := 7) hx hb htg i_Reducer hown hK hP 0 rfl rfl 1 (by decide) (htg _ tm_57) (fun _ h9 => h9) rfl d_R_result_9 ?_
  refine lv_aload_n hx hb d_R_result_12 rfl (lv_at hl 0 rfl) ?_
  refine va_get (D := D) (ci := 1) (v := .long rc) (C := R_Reducer) (T := F_Reducer) (N := 7) hx hb htg i_Reducer hown hK hP 0 rfl rfl 2 (by decide) (htg _ tm_58) (fun _ h9 => h9) rfl d_R_result_13 ?_
  refine lv_aload_n hx hb d_R_result_16 rfl (lv_at hl 0 rfl) ?_
  refine va_get (D := D) (ci := 1) (v := .long rx) (C := R_Reducer) (T := F_Reducer) (N := 7) hx hb htg i_Reducer hown hK hP 0 rfl rfl 3 (by decide) (htg _ tm_59) (fun _ h9 => h9) rfl d_R_result_17 ?_
  refine lv_ldc2 (v := (2 : Int64)) hx hb hown (htg _ tm_178) d_R_result_20 ?_
  refine lv_ldiv hx hb d_R_result_23 (by decide) ?_
  refine lv_aload_n hx hb d_R_result_24 rfl (lv_at hl 0 rfl) ?_
  refine va_get (D := D) (ci := 1) (v := .long ry) (C := R_Reducer) (T := F_Reducer) (N := 7) hx hb htg i_Reducer hown hK hP 0 rfl rfl 4 (by decide) (htg _ tm_60) (fun _ h9 => h9) rfl d_R_result_25 ?_
  refine lv_ldc2 (v := (2 : Int64)) hx hb hown (htg _ tm_178) d_R_result_28 ?_
  refine lv_ldiv hx hb d_R_result_31 (by decide) ?_
  refine lv_aload_n hx hb d_R_result_32 rfl (lv_at hl 0 rfl) ?_
  refine va_get (D := D) (ci := 1) (v := .long rz) (C := R_Reducer) (T := F_Reducer) (N := 7) hx hb htg i_Reducer hown hK hP 0 rfl rfl 5 (by decide) (htg _ tm_61) (fun _ h9 => h9) rfl d_R_result_33 ?_
  refine lv_ldc2 (v := (2 : Int64)) hx hb hown (htg _ tm_178) d_R_result_36 ?_
  refine lv_ldiv hx hb d_R_result_39 (by decide) ?_
  have hP := va_P.part (cx := [(q_1, .inr (0, [.long (0 : Int64), .long (0 : Int64), .long (0 : Int64), .long (0 : Int64), .long (0 : Int64), .long (0 : Int64)])), (h0, .inr (1, [.long ra, .long rb, .long rc, .long rx, .long ry, .long rz, .int rs]))]) hP [1, 0] rfl
  have hD := va_D.part (cx := [(q_1, .inr (0, [.long (0 : Int64), .long (0 : Int64), .long (0 : Int64), .long (0 : Int64), .long (0 : Int64), .long (0 : Int64)])), (h0, .inr (1, [.long ra, .long rb, .long rc, .long rx, .long ry, .long rz, .int rs]))]) hD [1, 0] (by decide) rfl
  obtain ⟨⟨fa_2, fb_3, fc_4, fd_5, fe_6, ff_7⟩, e_8⟩ : ∃ v, f_P_init ra rb rc (rx / (2 : Int64)) (ry / (2 : Int64)) (rz / (2 : Int64)) = v := ⟨_, rfl⟩
  rw [e_8, bnd_eq] at h
  try dsimp only at h
  refine va_callv (va_runI (As := [.long ra, .long rb, .long rc, .long (rx / (2 : Int64)), .long (ry / (2 : Int64)), .long (rz / (2 : Int64))]) (rest := [.ref q_1]) ⟨hx, hb, hml, hown, htg⟩ (c_P_init l D ct A ([(h0, .inr (1, [.long ra, .long rb, .long rc, .long rx, .long ry, .long rz, .int rs]))] ++ wt)  q_1 (0 : Int64) (0 : Int64) (0 : Int64) (0 : Int64) (0 : Int64) (0 : Int64) ra rb rc (rx / (2 : Int64)) (ry / (2 : Int64)) (rz / (2 : Int64))  _ e_8) (cwI 6 htg g_P_init rfl rfl rfl (htg _ tm_35) (htg _ tm_223) (htg _ tm_130) rfl (by decide +kernel) ⟨Nat.le_of_ble_eq_true rfl, Nat.le_of_ble_eq_true rfl⟩) (preSM hA hS hP hD hKK) rfl rfl hl.1 rfl (lv_room (Nat.le_of_ble_eq_true rfl)) d_R_result_40 ⟨Nat.le_of_ble_eq_true rfl, Nat.le_of_ble_eq_true rfl⟩) hS (fun q _ h9 => h9) (fun q h9 => h9) (fun u9 t9 H locs ht9 hvm9 hw9 hB9 hz9 hk9 hS => ?_)
  rw [hw9] at hB9
  obtain ⟨hP, hD⟩ := hB9
  rw [ht9] at hP
  have hP : va_P D classes ([(q_1, .inr (0, [.long fa_2, .long fb_3, .long fc_4, .long fd_5, .long fe_6, .long ff_7])), (h0, .inr (1, [.long ra, .long rb, .long rc, .long rx, .long ry, .long rz, .int rs]))] ++ wt) H := hP
  have hD : va_D A ([(q_1, .inr (0, [.long fa_2, .long fb_3, .long fc_4, .long fd_5, .long fe_6, .long ff_7])), (h0, .inr (1, [.long ra, .long rb, .long rc, .long rx, .long ry, .long rz, .int rs]))] ++ wt) := hD
  have hP := va_P.part (cx := [(h0, .inr (1, [.long ra, .long rb, .long rc, .long rx, .long ry, .long rz, .int rs])), (q_1, .inr (0, [.long fa_2, .long fb_3, .long fc_4, .long fd_5, .long fe_6, .long ff_7]))]) hP [1, 0] rfl
  have hD := va_D.part (cx := [(h0, .inr (1, [.long ra, .long rb, .long rc, .long rx, .long ry, .long rz, .int rs])), (q_1, .inr (0, [.long fa_2, .long fb_3, .long fc_4, .long fd_5, .long fe_6, .long ff_7]))]) hD [1, 0] (by decide) rfl
  exact W.aret (v := .ref q_1) hx hb hr (Or.inl ⟨_, rfl⟩) (Or.inr ⟨_, rfl⟩) (fun t ht hW => ⟨⟨(fa_2, fb_3, fc_4, fd_5, fe_6, ff_7), q_1, rfl, h, by rw [ht]; exact hP, hD⟩, hS.F ht⟩) hS.2.2 d_R_result_43
end
section
theorem d_T_size_0 : decode b_T_size 0 = .ok (.aload_n 0, 1) := by decide +kernel
theorem d_T_size_1 : decode b_T_size 1 = .ok (.getfield 19, 3) := by decide +kernel
theorem d_T_size_4 : decode b_T_size 4 = .ok (.ireturn, 1) := by decide +kernel
theorem d_T_at_0 : decode b_T_at 0 = .ok (.iload_n 1, 1) := by decide +kernel
theorem d_T_at_1 : decode b_T_at 1 = .ok (.ifCond .lt 28, 3) := by decide +kernel
theorem d_T_at_4 : decode b_T_at 4 = .ok (.iload_n 1, 1) := by decide +kernel
theorem d_T_at_5 : decode b_T_at 5 = .ok (.aload_n 0, 1) := by decide +kernel
theorem d_T_at_6 : decode b_T_at 6 = .ok (.getfield 19, 3) := by decide +kernel
theorem d_T_at_9 : decode b_T_at 9 = .ok (.if_icmp .ge 20, 3) := by decide +kernel
theorem d_T_at_12 : decode b_T_at 12 = .ok (.iload_n 1, 1) := by decide +kernel
theorem d_T_at_13 : decode b_T_at 13 = .ok (.sipush 455, 3) := by decide +kernel
theorem d_T_at_16 : decode b_T_at 16 = .ok (.if_icmp .ge 13, 3) := by decide +kernel
theorem d_T_at_19 : decode b_T_at 19 = .ok (.iload_n 2, 1) := by decide +kernel
theorem d_T_at_20 : decode b_T_at 20 = .ok (.ifCond .lt 9, 3) := by decide +kernel
theorem d_T_at_23 : decode b_T_at 23 = .ok (.iload_n 2, 1) := by decide +kernel
theorem d_T_at_24 : decode b_T_at 24 = .ok (.bipush 7, 2) := by decide +kernel
theorem d_T_at_26 : decode b_T_at 26 = .ok (.if_icmp .lt 5, 3) := by decide +kernel
theorem d_T_at_29 : decode b_T_at 29 = .ok (.lconst 0, 1) := by decide +kernel
theorem d_T_at_30 : decode b_T_at 30 = .ok (.lreturn, 1) := by decide +kernel
theorem d_T_at_31 : decode b_T_at 31 = .ok (.aload_n 0, 1) := by decide +kernel
theorem d_T_at_32 : decode b_T_at 32 = .ok (.getfield 15, 3) := by decide +kernel
theorem d_T_at_35 : decode b_T_at 35 = .ok (.iload_n 1, 1) := by decide +kernel
theorem d_T_at_36 : decode b_T_at 36 = .ok (.bipush 7, 2) := by decide +kernel
theorem d_T_at_38 : decode b_T_at 38 = .ok (.imul, 1) := by decide +kernel
theorem d_T_at_39 : decode b_T_at 39 = .ok (.iload_n 2, 1) := by decide +kernel
theorem d_T_at_40 : decode b_T_at 40 = .ok (.iadd, 1) := by decide +kernel
theorem d_T_at_41 : decode b_T_at 41 = .ok (.laload, 1) := by decide +kernel
theorem d_T_at_42 : decode b_T_at 42 = .ok (.lreturn, 1) := by decide +kernel
theorem d_T_ordR_0 : decode b_T_ordR 0 = .ok (.iconst 0, 1) := by decide +kernel
theorem d_T_ordR_1 : decode b_T_ordR 1 = .ok (.istore_n 2, 1) := by decide +kernel
theorem d_T_ordR_2 : decode b_T_ordR 2 = .ok (.iload_n 2, 1) := by decide +kernel
theorem d_T_ordR_3 : decode b_T_ordR 3 = .ok (.bipush 6, 2) := by decide +kernel
theorem d_T_ordR_5 : decode b_T_ordR 5 = .ok (.if_icmp .ge 33, 3) := by decide +kernel
theorem d_T_ordR_8 : decode b_T_ordR 8 = .ok (.aload_n 0, 1) := by decide +kernel
theorem d_T_ordR_9 : decode b_T_ordR 9 = .ok (.iload_n 1, 1) := by decide +kernel
theorem d_T_ordR_10 : decode b_T_ordR 10 = .ok (.iload_n 2, 1) := by decide +kernel
theorem d_T_ordR_11 : decode b_T_ordR 11 = .ok (.invokevirtual 70, 3) := by decide +kernel
theorem d_T_ordR_14 : decode b_T_ordR 14 = .ok (.aload_n 0, 1) := by decide +kernel
theorem d_T_ordR_15 : decode b_T_ordR 15 = .ok (.getfield 9, 3) := by decide +kernel
theorem d_T_ordR_18 : decode b_T_ordR 18 = .ok (.iload_n 2, 1) := by decide +kernel
theorem d_T_ordR_19 : decode b_T_ordR 19 = .ok (.invokevirtual 74, 3) := by decide +kernel
theorem d_T_ordR_22 : decode b_T_ordR 22 = .ok (.invokestatic 77, 3) := by decide +kernel
theorem d_T_ordR_25 : decode b_T_ordR 25 = .ok (.istore_n 3, 1) := by decide +kernel
theorem d_T_ordR_26 : decode b_T_ordR 26 = .ok (.iload_n 3, 1) := by decide +kernel
theorem d_T_ordR_27 : decode b_T_ordR 27 = .ok (.ifCond .eq 5, 3) := by decide +kernel
theorem d_T_ordR_30 : decode b_T_ordR 30 = .ok (.iload_n 3, 1) := by decide +kernel
theorem d_T_ordR_31 : decode b_T_ordR 31 = .ok (.ireturn, 1) := by decide +kernel
theorem d_T_ordR_32 : decode b_T_ordR 32 = .ok (.iinc 2 1, 3) := by decide +kernel
theorem d_T_ordR_35 : decode b_T_ordR 35 = .ok (.goto (-33), 3) := by decide +kernel
theorem d_T_ordR_38 : decode b_T_ordR 38 = .ok (.iconst 0, 1) := by decide +kernel
theorem d_T_ordR_39 : decode b_T_ordR 39 = .ok (.ireturn, 1) := by decide +kernel
theorem d_T_first_0 : decode b_T_first 0 = .ok (.iconst 0, 1) := by decide +kernel
theorem d_T_first_1 : decode b_T_first 1 = .ok (.istore_n 1, 1) := by decide +kernel
theorem d_T_first_2 : decode b_T_first 2 = .ok (.aload_n 0, 1) := by decide +kernel
theorem d_T_first_3 : decode b_T_first 3 = .ok (.getfield 19, 3) := by decide +kernel
theorem d_T_first_6 : decode b_T_first 6 = .ok (.istore_n 2, 1) := by decide +kernel
theorem d_T_first_7 : decode b_T_first 7 = .ok (.iload_n 2, 1) := by decide +kernel
theorem d_T_first_8 : decode b_T_first 8 = .ok (.ifCond .le 37, 3) := by decide +kernel
theorem d_T_first_11 : decode b_T_first 11 = .ok (.iload_n 2, 1) := by decide +kernel
theorem d_T_first_12 : decode b_T_first 12 = .ok (.iconst 2, 1) := by decide +kernel
theorem d_T_first_13 : decode b_T_first 13 = .ok (.idiv, 1) := by decide +kernel
theorem d_T_first_14 : decode b_T_first 14 = .ok (.istore_n 3, 1) := by decide +kernel
theorem d_T_first_15 : decode b_T_first 15 = .ok (.aload_n 0, 1) := by decide +kernel
theorem d_T_first_16 : decode b_T_first 16 = .ok (.iload_n 1, 1) := by decide +kernel
theorem d_T_first_17 : decode b_T_first 17 = .ok (.iload_n 3, 1) := by decide +kernel
theorem d_T_first_18 : decode b_T_first 18 = .ok (.iadd, 1) := by decide +kernel
theorem d_T_first_19 : decode b_T_first 19 = .ok (.invokevirtual 62, 3) := by decide +kernel
theorem d_T_first_22 : decode b_T_first 22 = .ok (.ifCond .ge 18, 3) := by decide +kernel
theorem d_T_first_25 : decode b_T_first 25 = .ok (.iload_n 1, 1) := by decide +kernel
theorem d_T_first_26 : decode b_T_first 26 = .ok (.iload_n 3, 1) := by decide +kernel
theorem d_T_first_27 : decode b_T_first 27 = .ok (.iconst 1, 1) := by decide +kernel
theorem d_T_first_28 : decode b_T_first 28 = .ok (.iadd, 1) := by decide +kernel
theorem d_T_first_29 : decode b_T_first 29 = .ok (.iadd, 1) := by decide +kernel
theorem d_T_first_30 : decode b_T_first 30 = .ok (.istore_n 1, 1) := by decide +kernel
theorem d_T_first_31 : decode b_T_first 31 = .ok (.iload_n 2, 1) := by decide +kernel
theorem d_T_first_32 : decode b_T_first 32 = .ok (.iload_n 3, 1) := by decide +kernel
theorem d_T_first_33 : decode b_T_first 33 = .ok (.iconst 1, 1) := by decide +kernel
theorem d_T_first_34 : decode b_T_first 34 = .ok (.iadd, 1) := by decide +kernel
theorem d_T_first_35 : decode b_T_first 35 = .ok (.isub, 1) := by decide +kernel
theorem d_T_first_36 : decode b_T_first 36 = .ok (.istore_n 2, 1) := by decide +kernel
theorem d_T_first_37 : decode b_T_first 37 = .ok (.goto 5, 3) := by decide +kernel
theorem d_T_first_40 : decode b_T_first 40 = .ok (.iload_n 3, 1) := by decide +kernel
theorem d_T_first_41 : decode b_T_first 41 = .ok (.istore_n 2, 1) := by decide +kernel
theorem d_T_first_42 : decode b_T_first 42 = .ok (.goto (-35), 3) := by decide +kernel
theorem d_T_first_45 : decode b_T_first 45 = .ok (.iload_n 1, 1) := by decide +kernel
theorem d_T_first_46 : decode b_T_first 46 = .ok (.ireturn, 1) := by decide +kernel
theorem d_T_insert_0 : decode b_T_insert 0 = .ok (.iload_n 1, 1) := by decide +kernel
theorem d_T_insert_1 : decode b_T_insert 1 = .ok (.bipush 7, 2) := by decide +kernel
theorem d_T_insert_3 : decode b_T_insert 3 = .ok (.imul, 1) := by decide +kernel
theorem d_T_insert_4 : decode b_T_insert 4 = .ok (.istore_n 2, 1) := by decide +kernel
theorem d_T_insert_5 : decode b_T_insert 5 = .ok (.aload_n 0, 1) := by decide +kernel
theorem d_T_insert_6 : decode b_T_insert 6 = .ok (.getfield 15, 3) := by decide +kernel
theorem d_T_insert_9 : decode b_T_insert 9 = .ok (.iload_n 2, 1) := by decide +kernel
theorem d_T_insert_10 : decode b_T_insert 10 = .ok (.aload_n 0, 1) := by decide +kernel
theorem d_T_insert_11 : decode b_T_insert 11 = .ok (.getfield 15, 3) := by decide +kernel
theorem d_T_insert_14 : decode b_T_insert 14 = .ok (.iload_n 2, 1) := by decide +kernel
theorem d_T_insert_15 : decode b_T_insert 15 = .ok (.bipush 7, 2) := by decide +kernel
theorem d_T_insert_17 : decode b_T_insert 17 = .ok (.iadd, 1) := by decide +kernel
theorem d_T_insert_18 : decode b_T_insert 18 = .ok (.aload_n 0, 1) := by decide +kernel
theorem d_T_insert_19 : decode b_T_insert 19 = .ok (.getfield 19, 3) := by decide +kernel
theorem d_T_insert_22 : decode b_T_insert 22 = .ok (.iload_n 1, 1) := by decide +kernel
theorem d_T_insert_23 : decode b_T_insert 23 = .ok (.isub, 1) := by decide +kernel
theorem d_T_insert_24 : decode b_T_insert 24 = .ok (.bipush 7, 2) := by decide +kernel
theorem d_T_insert_26 : decode b_T_insert 26 = .ok (.imul, 1) := by decide +kernel
theorem d_T_insert_27 : decode b_T_insert 27 = .ok (.invokestatic 83, 3) := by decide +kernel
theorem d_T_insert_30 : decode b_T_insert 30 = .ok (.iconst 0, 1) := by decide +kernel
theorem d_T_insert_31 : decode b_T_insert 31 = .ok (.istore_n 3, 1) := by decide +kernel
theorem d_T_insert_32 : decode b_T_insert 32 = .ok (.iload_n 3, 1) := by decide +kernel
theorem d_T_insert_33 : decode b_T_insert 33 = .ok (.bipush 6, 2) := by decide +kernel
theorem d_T_insert_35 : decode b_T_insert 35 = .ok (.if_icmp .ge 25, 3) := by decide +kernel
theorem d_T_insert_38 : decode b_T_insert 38 = .ok (.aload_n 0, 1) := by decide +kernel
theorem d_T_insert_39 : decode b_T_insert 39 = .ok (.getfield 15, 3) := by decide +kernel
theorem d_T_insert_42 : decode b_T_insert 42 = .ok (.iload_n 2, 1) := by decide +kernel
theorem d_T_insert_43 : decode b_T_insert 43 = .ok (.iload_n 3, 1) := by decide +kernel
theorem d_T_insert_44 : decode b_T_insert 44 = .ok (.iadd, 1) := by decide +kernel
theorem d_T_insert_45 : decode b_T_insert 45 = .ok (.aload_n 0, 1) := by decide +kernel
theorem d_T_insert_46 : decode b_T_insert 46 = .ok (.getfield 9, 3) := by decide +kernel
theorem d_T_insert_49 : decode b_T_insert 49 = .ok (.iload_n 3, 1) := by decide +kernel
theorem d_T_insert_50 : decode b_T_insert 50 = .ok (.invokevirtual 74, 3) := by decide +kernel
theorem d_T_insert_53 : decode b_T_insert 53 = .ok (.lastore, 1) := by decide +kernel
theorem d_T_insert_54 : decode b_T_insert 54 = .ok (.iinc 3 1, 3) := by decide +kernel
theorem d_T_insert_57 : decode b_T_insert 57 = .ok (.goto (-25), 3) := by decide +kernel
theorem d_T_insert_60 : decode b_T_insert 60 = .ok (.aload_n 0, 1) := by decide +kernel
theorem d_T_insert_61 : decode b_T_insert 61 = .ok (.getfield 15, 3) := by decide +kernel
theorem d_T_insert_64 : decode b_T_insert 64 = .ok (.iload_n 2, 1) := by decide +kernel
theorem d_T_insert_65 : decode b_T_insert 65 = .ok (.bipush 6, 2) := by decide +kernel
theorem d_T_insert_67 : decode b_T_insert 67 = .ok (.iadd, 1) := by decide +kernel
theorem d_T_insert_68 : decode b_T_insert 68 = .ok (.lconst 0, 1) := by decide +kernel
theorem d_T_insert_69 : decode b_T_insert 69 = .ok (.lastore, 1) := by decide +kernel
theorem d_T_insert_70 : decode b_T_insert 70 = .ok (.aload_n 0, 1) := by decide +kernel
theorem d_T_insert_71 : decode b_T_insert 71 = .ok (.dup, 1) := by decide +kernel
theorem d_T_insert_72 : decode b_T_insert 72 = .ok (.getfield 19, 3) := by decide +kernel
theorem d_T_insert_75 : decode b_T_insert 75 = .ok (.iconst 1, 1) := by decide +kernel
theorem d_T_insert_76 : decode b_T_insert 76 = .ok (.iadd, 1) := by decide +kernel
theorem d_T_insert_77 : decode b_T_insert 77 = .ok (.putfield 19, 3) := by decide +kernel
theorem d_T_insert_80 : decode b_T_insert 80 = .ok (.return_, 1) := by decide +kernel
theorem d_T_count_0 : decode b_T_count 0 = .ok (.aload_n 0, 1) := by decide +kernel
theorem d_T_count_1 : decode b_T_count 1 = .ok (.invokevirtual 58, 3) := by decide +kernel
theorem d_T_count_4 : decode b_T_count 4 = .ok (.istore_n 1, 1) := by decide +kernel
theorem d_T_count_5 : decode b_T_count 5 = .ok (.iload_n 1, 1) := by decide +kernel
theorem d_T_count_6 : decode b_T_count 6 = .ok (.ifCond .lt 10, 3) := by decide +kernel
theorem d_T_count_9 : decode b_T_count 9 = .ok (.iload_n 1, 1) := by decide +kernel
theorem d_T_count_10 : decode b_T_count 10 = .ok (.sipush 455, 3) := by decide +kernel
theorem d_T_count_13 : decode b_T_count 13 = .ok (.if_icmp .lt 4, 3) := by decide +kernel
theorem d_T_count_16 : decode b_T_count 16 = .ok (.return_, 1) := by decide +kernel
theorem d_T_count_17 : decode b_T_count 17 = .ok (.iload_n 1, 1) := by decide +kernel
theorem d_T_count_18 : decode b_T_count 18 = .ok (.aload_n 0, 1) := by decide +kernel
theorem d_T_count_19 : decode b_T_count 19 = .ok (.getfield 19, 3) := by decide +kernel
theorem d_T_count_22 : decode b_T_count 22 = .ok (.if_icmp .ge 11, 3) := by decide +kernel
theorem d_T_count_25 : decode b_T_count 25 = .ok (.aload_n 0, 1) := by decide +kernel
theorem d_T_count_26 : decode b_T_count 26 = .ok (.iload_n 1, 1) := by decide +kernel
theorem d_T_count_27 : decode b_T_count 27 = .ok (.invokevirtual 62, 3) := by decide +kernel
theorem d_T_count_30 : decode b_T_count 30 = .ok (.ifCond .eq 19, 3) := by decide +kernel
theorem d_T_count_33 : decode b_T_count 33 = .ok (.aload_n 0, 1) := by decide +kernel
theorem d_T_count_34 : decode b_T_count 34 = .ok (.getfield 19, 3) := by decide +kernel
theorem d_T_count_37 : decode b_T_count 37 = .ok (.sipush 455, 3) := by decide +kernel
theorem d_T_count_40 : decode b_T_count 40 = .ok (.if_icmp .lt 4, 3) := by decide +kernel
theorem d_T_count_43 : decode b_T_count 43 = .ok (.return_, 1) := by decide +kernel
theorem d_T_count_44 : decode b_T_count 44 = .ok (.aload_n 0, 1) := by decide +kernel
theorem d_T_count_45 : decode b_T_count 45 = .ok (.iload_n 1, 1) := by decide +kernel
theorem d_T_count_46 : decode b_T_count 46 = .ok (.invokevirtual 66, 3) := by decide +kernel
theorem d_T_count_49 : decode b_T_count 49 = .ok (.aload_n 0, 1) := by decide +kernel
theorem d_T_count_50 : decode b_T_count 50 = .ok (.getfield 15, 3) := by decide +kernel
theorem d_T_count_53 : decode b_T_count 53 = .ok (.iload_n 1, 1) := by decide +kernel
theorem d_T_count_54 : decode b_T_count 54 = .ok (.bipush 7, 2) := by decide +kernel
theorem d_T_count_56 : decode b_T_count 56 = .ok (.imul, 1) := by decide +kernel
theorem d_T_count_57 : decode b_T_count 57 = .ok (.bipush 6, 2) := by decide +kernel
theorem d_T_count_59 : decode b_T_count 59 = .ok (.iadd, 1) := by decide +kernel
theorem d_T_count_60 : decode b_T_count 60 = .ok (.dup2, 1) := by decide +kernel
theorem d_T_count_61 : decode b_T_count 61 = .ok (.laload, 1) := by decide +kernel
theorem d_T_count_62 : decode b_T_count 62 = .ok (.lconst 1, 1) := by decide +kernel
theorem d_T_count_63 : decode b_T_count 63 = .ok (.ladd, 1) := by decide +kernel
theorem d_T_count_64 : decode b_T_count 64 = .ok (.lastore, 1) := by decide +kernel
theorem d_T_count_65 : decode b_T_count 65 = .ok (.return_, 1) := by decide +kernel
theorem d_T_edges_0 : decode b_T_edges 0 = .ok (.aload_n 0, 1) := by decide +kernel
theorem d_T_edges_1 : decode b_T_edges 1 = .ok (.getfield 9, 3) := by decide +kernel
theorem d_T_edges_4 : decode b_T_edges 4 = .ok (.aload_n 1, 1) := by decide +kernel
theorem d_T_edges_5 : decode b_T_edges 5 = .ok (.iload_n 2, 1) := by decide +kernel
theorem d_T_edges_6 : decode b_T_edges 6 = .ok (.i2l, 1) := by decide +kernel
theorem d_T_edges_7 : decode b_T_edges 7 = .ok (.lconst 0, 1) := by decide +kernel
theorem d_T_edges_8 : decode b_T_edges 8 = .ok (.lconst 0, 1) := by decide +kernel
theorem d_T_edges_9 : decode b_T_edges 9 = .ok (.iload_n 2, 1) := by decide +kernel
theorem d_T_edges_10 : decode b_T_edges 10 = .ok (.i2l, 1) := by decide +kernel
theorem d_T_edges_11 : decode b_T_edges 11 = .ok (.lconst 0, 1) := by decide +kernel
theorem d_T_edges_12 : decode b_T_edges 12 = .ok (.lconst 0, 1) := by decide +kernel
theorem d_T_edges_13 : decode b_T_edges 13 = .ok (.invokevirtual 40, 3) := by decide +kernel
theorem d_T_edges_16 : decode b_T_edges 16 = .ok (.aload_n 1, 1) := by decide +kernel
theorem d_T_edges_17 : decode b_T_edges 17 = .ok (.iload_n 3, 1) := by decide +kernel
theorem d_T_edges_18 : decode b_T_edges 18 = .ok (.i2l, 1) := by decide +kernel
theorem d_T_edges_19 : decode b_T_edges 19 = .ok (.iload 4, 2) := by decide +kernel
theorem d_T_edges_21 : decode b_T_edges 21 = .ok (.i2l, 1) := by decide +kernel
theorem d_T_edges_22 : decode b_T_edges 22 = .ok (.lconst 0, 1) := by decide +kernel
theorem d_T_edges_23 : decode b_T_edges 23 = .ok (.iload_n 3, 1) := by decide +kernel
theorem d_T_edges_24 : decode b_T_edges 24 = .ok (.i2l, 1) := by decide +kernel
theorem d_T_edges_25 : decode b_T_edges 25 = .ok (.iload 4, 2) := by decide +kernel
theorem d_T_edges_27 : decode b_T_edges 27 = .ok (.i2l, 1) := by decide +kernel
theorem d_T_edges_28 : decode b_T_edges 28 = .ok (.lconst 0, 1) := by decide +kernel
theorem d_T_edges_29 : decode b_T_edges 29 = .ok (.invokevirtual 40, 3) := by decide +kernel
theorem d_T_edges_32 : decode b_T_edges 32 = .ok (.aload_n 1, 1) := by decide +kernel
theorem d_T_edges_33 : decode b_T_edges 33 = .ok (.iload 5, 2) := by decide +kernel
theorem d_T_edges_35 : decode b_T_edges 35 = .ok (.i2l, 1) := by decide +kernel
theorem d_T_edges_36 : decode b_T_edges 36 = .ok (.iload 6, 2) := by decide +kernel
theorem d_T_edges_38 : decode b_T_edges 38 = .ok (.i2l, 1) := by decide +kernel
theorem d_T_edges_39 : decode b_T_edges 39 = .ok (.iload 7, 2) := by decide +kernel
theorem d_T_edges_41 : decode b_T_edges 41 = .ok (.i2l, 1) := by decide +kernel
theorem d_T_edges_42 : decode b_T_edges 42 = .ok (.iload 5, 2) := by decide +kernel
theorem d_T_edges_44 : decode b_T_edges 44 = .ok (.i2l, 1) := by decide +kernel
theorem d_T_edges_45 : decode b_T_edges 45 = .ok (.iload 6, 2) := by decide +kernel
theorem d_T_edges_47 : decode b_T_edges 47 = .ok (.i2l, 1) := by decide +kernel
theorem d_T_edges_48 : decode b_T_edges 48 = .ok (.iload 7, 2) := by decide +kernel
theorem d_T_edges_50 : decode b_T_edges 50 = .ok (.i2l, 1) := by decide +kernel
theorem d_T_edges_51 : decode b_T_edges 51 = .ok (.invokevirtual 40, 3) := by decide +kernel
theorem d_T_edges_54 : decode b_T_edges 54 = .ok (.invokevirtual 46, 3) := by decide +kernel
theorem d_T_edges_57 : decode b_T_edges 57 = .ok (.aload_n 0, 1) := by decide +kernel
theorem d_T_edges_58 : decode b_T_edges 58 = .ok (.getfield 9, 3) := by decide +kernel
theorem d_T_edges_61 : decode b_T_edges 61 = .ok (.aload_n 1, 1) := by decide +kernel
theorem d_T_edges_62 : decode b_T_edges 62 = .ok (.iload_n 3, 1) := by decide +kernel
theorem d_T_edges_63 : decode b_T_edges 63 = .ok (.i2l, 1) := by decide +kernel
theorem d_T_edges_64 : decode b_T_edges 64 = .ok (.iload 4, 2) := by decide +kernel
theorem d_T_edges_66 : decode b_T_edges 66 = .ok (.i2l, 1) := by decide +kernel
theorem d_T_edges_67 : decode b_T_edges 67 = .ok (.lconst 0, 1) := by decide +kernel
theorem d_T_edges_68 : decode b_T_edges 68 = .ok (.iload 5, 2) := by decide +kernel
theorem d_T_edges_70 : decode b_T_edges 70 = .ok (.i2l, 1) := by decide +kernel
theorem d_T_edges_71 : decode b_T_edges 71 = .ok (.iload 6, 2) := by decide +kernel
theorem d_T_edges_73 : decode b_T_edges 73 = .ok (.i2l, 1) := by decide +kernel
theorem d_T_edges_74 : decode b_T_edges 74 = .ok (.iload 7, 2) := by decide +kernel
theorem d_T_edges_76 : decode b_T_edges 76 = .ok (.i2l, 1) := by decide +kernel
theorem d_T_edges_77 : decode b_T_edges 77 = .ok (.invokevirtual 40, 3) := by decide +kernel
theorem d_T_edges_80 : decode b_T_edges 80 = .ok (.aload_n 1, 1) := by decide +kernel
theorem d_T_edges_81 : decode b_T_edges 81 = .ok (.iload_n 2, 1) := by decide +kernel
theorem d_T_edges_82 : decode b_T_edges 82 = .ok (.i2l, 1) := by decide +kernel
theorem d_T_edges_83 : decode b_T_edges 83 = .ok (.lconst 0, 1) := by decide +kernel
theorem d_T_edges_84 : decode b_T_edges 84 = .ok (.lconst 0, 1) := by decide +kernel
theorem d_T_edges_85 : decode b_T_edges 85 = .ok (.iload 5, 2) := by decide +kernel
theorem d_T_edges_87 : decode b_T_edges 87 = .ok (.i2l, 1) := by decide +kernel
theorem d_T_edges_88 : decode b_T_edges 88 = .ok (.iload 6, 2) := by decide +kernel
theorem d_T_edges_90 : decode b_T_edges 90 = .ok (.i2l, 1) := by decide +kernel
theorem d_T_edges_91 : decode b_T_edges 91 = .ok (.iload 7, 2) := by decide +kernel
theorem d_T_edges_93 : decode b_T_edges 93 = .ok (.i2l, 1) := by decide +kernel
theorem d_T_edges_94 : decode b_T_edges 94 = .ok (.invokevirtual 40, 3) := by decide +kernel
theorem d_T_edges_97 : decode b_T_edges 97 = .ok (.aload_n 1, 1) := by decide +kernel
theorem d_T_edges_98 : decode b_T_edges 98 = .ok (.iload_n 2, 1) := by decide +kernel
theorem d_T_edges_99 : decode b_T_edges 99 = .ok (.i2l, 1) := by decide +kernel
theorem d_T_edges_100 : decode b_T_edges 100 = .ok (.lconst 0, 1) := by decide +kernel
theorem d_T_edges_101 : decode b_T_edges 101 = .ok (.lconst 0, 1) := by decide +kernel
theorem d_T_edges_102 : decode b_T_edges 102 = .ok (.iload_n 3, 1) := by decide +kernel
theorem d_T_edges_103 : decode b_T_edges 103 = .ok (.i2l, 1) := by decide +kernel
theorem d_T_edges_104 : decode b_T_edges 104 = .ok (.iload 4, 2) := by decide +kernel
theorem d_T_edges_106 : decode b_T_edges 106 = .ok (.i2l, 1) := by decide +kernel
theorem d_T_edges_107 : decode b_T_edges 107 = .ok (.lconst 0, 1) := by decide +kernel
theorem d_T_edges_108 : decode b_T_edges 108 = .ok (.invokevirtual 40, 3) := by decide +kernel
theorem d_T_edges_111 : decode b_T_edges 111 = .ok (.invokevirtual 52, 3) := by decide +kernel
theorem d_T_edges_114 : decode b_T_edges 114 = .ok (.aload_n 0, 1) := by decide +kernel
theorem d_T_edges_115 : decode b_T_edges 115 = .ok (.getfield 9, 3) := by decide +kernel
theorem d_T_edges_118 : decode b_T_edges 118 = .ok (.invokevirtual 55, 3) := by decide +kernel
theorem d_T_edges_121 : decode b_T_edges 121 = .ok (.return_, 1) := by decide +kernel
theorem d_T_addAll_0 : decode b_T_addAll 0 = .ok (.iconst 0, 1) := by decide +kernel
theorem d_T_addAll_1 : decode b_T_addAll 1 = .ok (.istore 5, 2) := by decide +kernel
theorem d_T_addAll_3 : decode b_T_addAll 3 = .ok (.iload 5, 2) := by decide +kernel
theorem d_T_addAll_5 : decode b_T_addAll 5 = .ok (.iload_n 2, 1) := by decide +kernel
theorem d_T_addAll_6 : decode b_T_addAll 6 = .ok (.if_icmp .ge 58, 3) := by decide +kernel
theorem d_T_addAll_9 : decode b_T_addAll 9 = .ok (.iconst 0, 1) := by decide +kernel
theorem d_T_addAll_10 : decode b_T_addAll 10 = .ok (.istore 6, 2) := by decide +kernel
theorem d_T_addAll_12 : decode b_T_addAll 12 = .ok (.iload 6, 2) := by decide +kernel
theorem d_T_addAll_14 : decode b_T_addAll 14 = .ok (.iload_n 2, 1) := by decide +kernel
theorem d_T_addAll_15 : decode b_T_addAll 15 = .ok (.if_icmp .ge 43, 3) := by decide +kernel
theorem d_T_addAll_18 : decode b_T_addAll 18 = .ok (.iconst 0, 1) := by decide +kernel
theorem d_T_addAll_19 : decode b_T_addAll 19 = .ok (.istore 7, 2) := by decide +kernel
theorem d_T_addAll_21 : decode b_T_addAll 21 = .ok (.iload 7, 2) := by decide +kernel
theorem d_T_addAll_23 : decode b_T_addAll 23 = .ok (.iload_n 3, 1) := by decide +kernel
theorem d_T_addAll_24 : decode b_T_addAll 24 = .ok (.if_icmp .ge 28, 3) := by decide +kernel
theorem d_T_addAll_27 : decode b_T_addAll 27 = .ok (.aload_n 0, 1) := by decide +kernel
theorem d_T_addAll_28 : decode b_T_addAll 28 = .ok (.aload_n 1, 1) := by decide +kernel
theorem d_T_addAll_29 : decode b_T_addAll 29 = .ok (.iload_n 2, 1) := by decide +kernel
theorem d_T_addAll_30 : decode b_T_addAll 30 = .ok (.iload 5, 2) := by decide +kernel
theorem d_T_addAll_32 : decode b_T_addAll 32 = .ok (.iload_n 3, 1) := by decide +kernel
theorem d_T_addAll_33 : decode b_T_addAll 33 = .ok (.iload 6, 2) := by decide +kernel
theorem d_T_addAll_35 : decode b_T_addAll 35 = .ok (.iload 7, 2) := by decide +kernel
theorem d_T_addAll_37 : decode b_T_addAll 37 = .ok (.iload 4, 2) := by decide +kernel
theorem d_T_addAll_39 : decode b_T_addAll 39 = .ok (.invokevirtual 33, 3) := by decide +kernel
theorem d_T_addAll_42 : decode b_T_addAll 42 = .ok (.aload_n 0, 1) := by decide +kernel
theorem d_T_addAll_43 : decode b_T_addAll 43 = .ok (.invokevirtual 37, 3) := by decide +kernel
theorem d_T_addAll_46 : decode b_T_addAll 46 = .ok (.iinc 7 1, 3) := by decide +kernel
theorem d_T_addAll_49 : decode b_T_addAll 49 = .ok (.goto (-28), 3) := by decide +kernel
theorem d_T_addAll_52 : decode b_T_addAll 52 = .ok (.iinc 6 1, 3) := by decide +kernel
theorem d_T_addAll_55 : decode b_T_addAll 55 = .ok (.goto (-43), 3) := by decide +kernel
theorem d_T_addAll_58 : decode b_T_addAll 58 = .ok (.iinc 5 1, 3) := by decide +kernel
theorem d_T_addAll_61 : decode b_T_addAll 61 = .ok (.goto (-58), 3) := by decide +kernel
theorem d_T_addAll_64 : decode b_T_addAll 64 = .ok (.return_, 1) := by decide +kernel
theorem d_T_fill_0 : decode b_T_fill 0 = .ok (.aload_n 0, 1) := by decide +kernel
theorem d_T_fill_1 : decode b_T_fill 1 = .ok (.getfield 23, 3) := by decide +kernel
theorem d_T_fill_4 : decode b_T_fill 4 = .ok (.iload_n 1, 1) := by decide +kernel
theorem d_T_fill_5 : decode b_T_fill 5 = .ok (.if_icmp .ne 12, 3) := by decide +kernel
theorem d_T_fill_8 : decode b_T_fill 8 = .ok (.aload_n 0, 1) := by decide +kernel
theorem d_T_fill_9 : decode b_T_fill 9 = .ok (.getfield 26, 3) := by decide +kernel
theorem d_T_fill_12 : decode b_T_fill 12 = .ok (.iload_n 3, 1) := by decide +kernel
theorem d_T_fill_13 : decode b_T_fill 13 = .ok (.if_icmp .ne 4, 3) := by decide +kernel
theorem d_T_fill_16 : decode b_T_fill 16 = .ok (.return_, 1) := by decide +kernel
theorem d_T_fill_17 : decode b_T_fill 17 = .ok (.aload_n 0, 1) := by decide +kernel
theorem d_T_fill_18 : decode b_T_fill 18 = .ok (.iload_n 1, 1) := by decide +kernel
theorem d_T_fill_19 : decode b_T_fill 19 = .ok (.putfield 23, 3) := by decide +kernel
theorem d_T_fill_22 : decode b_T_fill 22 = .ok (.aload_n 0, 1) := by decide +kernel
theorem d_T_fill_23 : decode b_T_fill 23 = .ok (.iload_n 3, 1) := by decide +kernel
theorem d_T_fill_24 : decode b_T_fill 24 = .ok (.putfield 26, 3) := by decide +kernel
theorem d_T_fill_27 : decode b_T_fill 27 = .ok (.aload_n 0, 1) := by decide +kernel
theorem d_T_fill_28 : decode b_T_fill 28 = .ok (.iconst 0, 1) := by decide +kernel
theorem d_T_fill_29 : decode b_T_fill 29 = .ok (.putfield 19, 3) := by decide +kernel
theorem d_T_fill_32 : decode b_T_fill 32 = .ok (.iconst 1, 1) := by decide +kernel
theorem d_T_fill_33 : decode b_T_fill 33 = .ok (.istore 4, 2) := by decide +kernel
theorem d_T_fill_35 : decode b_T_fill 35 = .ok (.iload 4, 2) := by decide +kernel
theorem d_T_fill_37 : decode b_T_fill 37 = .ok (.iload_n 3, 1) := by decide +kernel
theorem d_T_fill_38 : decode b_T_fill 38 = .ok (.if_icmp .gt 53, 3) := by decide +kernel
theorem d_T_fill_41 : decode b_T_fill 41 = .ok (.iconst 1, 1) := by decide +kernel
theorem d_T_fill_42 : decode b_T_fill 42 = .ok (.istore 5, 2) := by decide +kernel
theorem d_T_fill_44 : decode b_T_fill 44 = .ok (.iload 4, 2) := by decide +kernel
theorem d_T_fill_46 : decode b_T_fill 46 = .ok (.iload 5, 2) := by decide +kernel
theorem d_T_fill_48 : decode b_T_fill 48 = .ok (.imul, 1) := by decide +kernel
theorem d_T_fill_49 : decode b_T_fill 49 = .ok (.iload_n 3, 1) := by decide +kernel
theorem d_T_fill_50 : decode b_T_fill 50 = .ok (.if_icmp .gt 35, 3) := by decide +kernel
theorem d_T_fill_53 : decode b_T_fill 53 = .ok (.iload_n 3, 1) := by decide +kernel
theorem d_T_fill_54 : decode b_T_fill 54 = .ok (.iload 4, 2) := by decide +kernel
theorem d_T_fill_56 : decode b_T_fill 56 = .ok (.iload 5, 2) := by decide +kernel
theorem d_T_fill_58 : decode b_T_fill 58 = .ok (.imul, 1) := by decide +kernel
theorem d_T_fill_59 : decode b_T_fill 59 = .ok (.irem, 1) := by decide +kernel
theorem d_T_fill_60 : decode b_T_fill 60 = .ok (.ifCond .ne 19, 3) := by decide +kernel
theorem d_T_fill_63 : decode b_T_fill 63 = .ok (.aload_n 0, 1) := by decide +kernel
theorem d_T_fill_64 : decode b_T_fill 64 = .ok (.aload_n 2, 1) := by decide +kernel
theorem d_T_fill_65 : decode b_T_fill 65 = .ok (.iload 4, 2) := by decide +kernel
theorem d_T_fill_67 : decode b_T_fill 67 = .ok (.iload 5, 2) := by decide +kernel
theorem d_T_fill_69 : decode b_T_fill 69 = .ok (.iload_n 3, 1) := by decide +kernel
theorem d_T_fill_70 : decode b_T_fill 70 = .ok (.iload 4, 2) := by decide +kernel
theorem d_T_fill_72 : decode b_T_fill 72 = .ok (.iload 5, 2) := by decide +kernel
theorem d_T_fill_74 : decode b_T_fill 74 = .ok (.imul, 1) := by decide +kernel
theorem d_T_fill_75 : decode b_T_fill 75 = .ok (.idiv, 1) := by decide +kernel
theorem d_T_fill_76 : decode b_T_fill 76 = .ok (.invokevirtual 29, 3) := by decide +kernel
theorem d_T_fill_79 : decode b_T_fill 79 = .ok (.iinc 5 1, 3) := by decide +kernel
theorem d_T_fill_82 : decode b_T_fill 82 = .ok (.goto (-38), 3) := by decide +kernel
theorem d_T_fill_85 : decode b_T_fill 85 = .ok (.iinc 4 1, 3) := by decide +kernel
theorem d_T_fill_88 : decode b_T_fill 88 = .ok (.goto (-53), 3) := by decide +kernel
theorem d_T_fill_91 : decode b_T_fill 91 = .ok (.return_, 1) := by decide +kernel
theorem d_T_ordO_0 : decode b_T_ordO 0 = .ok (.iconst 0, 1) := by decide +kernel
theorem d_T_ordO_1 : decode b_T_ordO 1 = .ok (.istore 4, 2) := by decide +kernel
theorem d_T_ordO_3 : decode b_T_ordO 3 = .ok (.iload 4, 2) := by decide +kernel
theorem d_T_ordO_5 : decode b_T_ordO 5 = .ok (.bipush 6, 2) := by decide +kernel
theorem d_T_ordO_7 : decode b_T_ordO 7 = .ok (.if_icmp .ge 36, 3) := by decide +kernel
theorem d_T_ordO_10 : decode b_T_ordO 10 = .ok (.aload_n 0, 1) := by decide +kernel
theorem d_T_ordO_11 : decode b_T_ordO 11 = .ok (.iload_n 1, 1) := by decide +kernel
theorem d_T_ordO_12 : decode b_T_ordO 12 = .ok (.iload 4, 2) := by decide +kernel
theorem d_T_ordO_14 : decode b_T_ordO 14 = .ok (.invokevirtual 70, 3) := by decide +kernel
theorem d_T_ordO_17 : decode b_T_ordO 17 = .ok (.aload_n 2, 1) := by decide +kernel
theorem d_T_ordO_18 : decode b_T_ordO 18 = .ok (.iload_n 3, 1) := by decide +kernel
theorem d_T_ordO_19 : decode b_T_ordO 19 = .ok (.iload 4, 2) := by decide +kernel
theorem d_T_ordO_21 : decode b_T_ordO 21 = .ok (.invokevirtual 70, 3) := by decide +kernel
theorem d_T_ordO_24 : decode b_T_ordO 24 = .ok (.invokestatic 77, 3) := by decide +kernel
theorem d_T_ordO_27 : decode b_T_ordO 27 = .ok (.istore 5, 2) := by decide +kernel
theorem d_T_ordO_29 : decode b_T_ordO 29 = .ok (.iload 5, 2) := by decide +kernel
theorem d_T_ordO_31 : decode b_T_ordO 31 = .ok (.ifCond .eq 6, 3) := by decide +kernel
theorem d_T_ordO_34 : decode b_T_ordO 34 = .ok (.iload 5, 2) := by decide +kernel
theorem d_T_ordO_36 : decode b_T_ordO 36 = .ok (.ireturn, 1) := by decide +kernel
theorem d_T_ordO_37 : decode b_T_ordO 37 = .ok (.iinc 4 1, 3) := by decide +kernel
theorem d_T_ordO_40 : decode b_T_ordO 40 = .ok (.goto (-37), 3) := by decide +kernel
theorem d_T_ordO_43 : decode b_T_ordO 43 = .ok (.iconst 0, 1) := by decide +kernel
theorem d_T_ordO_44 : decode b_T_ordO 44 = .ok (.ireturn, 1) := by decide +kernel
theorem d_T_shared_0 : decode b_T_shared 0 = .ok (.iconst 0, 1) := by decide +kernel
theorem d_T_shared_1 : decode b_T_shared 1 = .ok (.istore_n 2, 1) := by decide +kernel
theorem d_T_shared_2 : decode b_T_shared 2 = .ok (.iconst 0, 1) := by decide +kernel
theorem d_T_shared_3 : decode b_T_shared 3 = .ok (.istore_n 3, 1) := by decide +kernel
theorem d_T_shared_4 : decode b_T_shared 4 = .ok (.iconst 0, 1) := by decide +kernel
theorem d_T_shared_5 : decode b_T_shared 5 = .ok (.istore 4, 2) := by decide +kernel
theorem d_T_shared_7 : decode b_T_shared 7 = .ok (.iload 4, 2) := by decide +kernel
theorem d_T_shared_9 : decode b_T_shared 9 = .ok (.aload_n 0, 1) := by decide +kernel
theorem d_T_shared_10 : decode b_T_shared 10 = .ok (.getfield 19, 3) := by decide +kernel
theorem d_T_shared_13 : decode b_T_shared 13 = .ok (.if_icmp .ge 56, 3) := by decide +kernel
theorem d_T_shared_16 : decode b_T_shared 16 = .ok (.iload_n 3, 1) := by decide +kernel
theorem d_T_shared_17 : decode b_T_shared 17 = .ok (.aload_n 1, 1) := by decide +kernel
theorem d_T_shared_18 : decode b_T_shared 18 = .ok (.getfield 19, 3) := by decide +kernel
theorem d_T_shared_21 : decode b_T_shared 21 = .ok (.if_icmp .ge 20, 3) := by decide +kernel
theorem d_T_shared_24 : decode b_T_shared 24 = .ok (.aload_n 0, 1) := by decide +kernel
theorem d_T_shared_25 : decode b_T_shared 25 = .ok (.iload 4, 2) := by decide +kernel
theorem d_T_shared_27 : decode b_T_shared 27 = .ok (.aload_n 1, 1) := by decide +kernel
theorem d_T_shared_28 : decode b_T_shared 28 = .ok (.iload_n 3, 1) := by decide +kernel
theorem d_T_shared_29 : decode b_T_shared 29 = .ok (.invokevirtual 89, 3) := by decide +kernel
theorem d_T_shared_32 : decode b_T_shared 32 = .ok (.ifCond .le 9, 3) := by decide +kernel
theorem d_T_shared_35 : decode b_T_shared 35 = .ok (.iinc 3 1, 3) := by decide +kernel
theorem d_T_shared_38 : decode b_T_shared 38 = .ok (.goto (-22), 3) := by decide +kernel
theorem d_T_shared_41 : decode b_T_shared 41 = .ok (.iload_n 3, 1) := by decide +kernel
theorem d_T_shared_42 : decode b_T_shared 42 = .ok (.aload_n 1, 1) := by decide +kernel
theorem d_T_shared_43 : decode b_T_shared 43 = .ok (.getfield 19, 3) := by decide +kernel
theorem d_T_shared_46 : decode b_T_shared 46 = .ok (.if_icmp .ge 17, 3) := by decide +kernel
theorem d_T_shared_49 : decode b_T_shared 49 = .ok (.aload_n 0, 1) := by decide +kernel
theorem d_T_shared_50 : decode b_T_shared 50 = .ok (.iload 4, 2) := by decide +kernel
theorem d_T_shared_52 : decode b_T_shared 52 = .ok (.aload_n 1, 1) := by decide +kernel
theorem d_T_shared_53 : decode b_T_shared 53 = .ok (.iload_n 3, 1) := by decide +kernel
theorem d_T_shared_54 : decode b_T_shared 54 = .ok (.invokevirtual 89, 3) := by decide +kernel
theorem d_T_shared_57 : decode b_T_shared 57 = .ok (.ifCond .ne 6, 3) := by decide +kernel
theorem d_T_shared_60 : decode b_T_shared 60 = .ok (.iinc 2 1, 3) := by decide +kernel
theorem d_T_shared_63 : decode b_T_shared 63 = .ok (.iinc 4 1, 3) := by decide +kernel
theorem d_T_shared_66 : decode b_T_shared 66 = .ok (.goto (-59), 3) := by decide +kernel
theorem d_T_shared_69 : decode b_T_shared 69 = .ok (.iload_n 2, 1) := by decide +kernel
theorem d_T_shared_70 : decode b_T_shared 70 = .ok (.ireturn, 1) := by decide +kernel
theorem d_T_init_0 : decode b_T_init 0 = .ok (.aload_n 0, 1) := by decide +kernel
theorem d_T_init_1 : decode b_T_init 1 = .ok (.invokespecial 3, 3) := by decide +kernel
theorem d_T_init_4 : decode b_T_init 4 = .ok (.aload_n 0, 1) := by decide +kernel
theorem d_T_init_5 : decode b_T_init 5 = .ok (.aload_n 1, 1) := by decide +kernel
theorem d_T_init_6 : decode b_T_init 6 = .ok (.putfield 9, 3) := by decide +kernel
theorem d_T_init_9 : decode b_T_init 9 = .ok (.aload_n 0, 1) := by decide +kernel
theorem d_T_init_10 : decode b_T_init 10 = .ok (.sipush 3185, 3) := by decide +kernel
theorem d_T_init_13 : decode b_T_init 13 = .ok (.newarray .long, 2) := by decide +kernel
theorem d_T_init_15 : decode b_T_init 15 = .ok (.putfield 15, 3) := by decide +kernel
theorem d_T_init_18 : decode b_T_init 18 = .ok (.aload_n 0, 1) := by decide +kernel
theorem d_T_init_19 : decode b_T_init 19 = .ok (.iconst 0, 1) := by decide +kernel
theorem d_T_init_20 : decode b_T_init 20 = .ok (.putfield 19, 3) := by decide +kernel
theorem d_T_init_23 : decode b_T_init 23 = .ok (.aload_n 0, 1) := by decide +kernel
theorem d_T_init_24 : decode b_T_init 24 = .ok (.iconst (-1), 1) := by decide +kernel
theorem d_T_init_25 : decode b_T_init 25 = .ok (.putfield 23, 3) := by decide +kernel
theorem d_T_init_28 : decode b_T_init 28 = .ok (.aload_n 0, 1) := by decide +kernel
theorem d_T_init_29 : decode b_T_init 29 = .ok (.iconst 0, 1) := by decide +kernel
theorem d_T_init_30 : decode b_T_init 30 = .ok (.putfield 26, 3) := by decide +kernel
theorem d_T_init_33 : decode b_T_init 33 = .ok (.return_, 1) := by decide +kernel
end
section
-- CellBench$MultipleTable size ()I
def f_T_size (sz : Int32) : Int32 :=
    sz
def w_T_size : List Cond := .code y_T_size b_T_size 1 (some .int) :: GW
abbrev rm_T_size : Room := { frames := 0, cells := 0, slots := 0, locals := 0 }
theorem g_T_size : GoodIn GW w_T_size := gi tm_362
set_option maxHeartbeats 4000000 in
set_option maxRecDepth 100000 in
theorem c_T_size (l : Launch) (D : va_G) (ct : CT) (ws : va_W) (k0 : Nat) (h0 : Nat) (h2 : Nat) (h1 : Nat) (sz : Int32) (fc_ : Int32) (fn_ : Int32) (hk0 : ws[k0]? = some (h0, .inr (2, [.ref h2, .ref h1, .int sz, .int fc_, .int fn_])))  (r0 : Int32) (h : f_T_size sz = r0) : Met l y_T_size w_T_size rm_T_size (va_Pc [.ref h0] (PreP D ct ws)) (vp_Si (fun r => r = r0)) 0 0 (fun _ => False) := by
  refine Met.ofW (cc := b_T_size) (maxL := 1) (ret := (some .int)) (by decide) rfl ?_
  intro p e s m args below meth c s₁ B hml hv
  obtain ⟨rfl, hP, hKK⟩ := hv
  have hx := B.exec
  have hb := B.bytes
  have hr := B.returns
  have htg := ht_tl (atoms_spec (ws := w_T_size) B.pre)
  have hown : s.vm.findClass R_Table = some m.cls := findClass_of_methodNamed B.named
  have hlocks := B.notSynchronized
  have hK := hKK.1
  have hN := hKK.2.1
  have hO := hKK.2.2
  have hl := lv_entry ([.ref h0]) (n := 1) (Nat.le_of_ble_eq_true rfl)
  rw [lg_entry_eq]
  generalize (lg_sl ([.ref h0]) ++ List.replicate (1 - (lg_sl ([.ref h0])).length) Slot.unset).toArray = ls at hl ⊢
  have hl : lv_has ls 1 [(0, .ref h0)] := hl
  unfold f_T_size at h
  refine lv_aload_n hx hb d_T_size_0 rfl (lv_at hl 0 rfl) ?_
  refine va_get (D := D) (ci := 2) (v := .int sz) (C := R_Table) (T := F_Table) (N := 5) hx hb htg i_Table hown hK hP k0 hk0 rfl 2 (by decide) (htg _ tm_86) (fun _ h9 => h9) rfl d_T_size_1 ?_
  exact W.iret (v := sz) hx hb hr (fun t ht hW => ⟨sz, rfl, h, ht⟩) (fun q h => by cases h) d_T_size_4
-- CellBench$MultipleTable at (II)J
def f_T_at (sz : Int32) (ro : Nat → Int64) (rw : Int32) (wh : Int32) : Option (Int64) :=
    if rw < 0 then (some (0 : Int64)) else (if sz ≤ rw then (some (0 : Int64)) else (if (455 : Int32) ≤ rw then (some (0 : Int64)) else (if wh < 0 then (some (0 : Int64)) else (if wh < (7 : Int32) then (if inb ((rw * (7 : Int32)) + wh) 3185 = true then (some (ro ((rw * (7 : Int32)) + wh).toNatClampNeg)) else none) else (some (0 : Int64))))))
def w_T_at : List Cond := .code y_T_at b_T_at 3 (some .long) :: GW
abbrev rm_T_at : Room := { frames := 0, cells := 0, slots := 0, locals := 0 }
theorem g_T_at : GoodIn GW w_T_at := gi tm_346
set_option maxHeartbeats 4000000 in
set_option maxRecDepth 100000 in
theorem c_T_at (l : Launch) (D : va_G) (ct : CT) (ws : va_W) (k0 : Nat) (k1 : Nat) (h0 : Nat) (h2 : Nat) (h1 : Nat) (sz : Int32) (fc_ : Int32) (fn_ : Int32) (ro : Nat → Int64) (rw : Int32) (wh : Int32) (hk0 : ws[k0]? = some (h0, .inr (2, [.ref h2, .ref h1, .int sz, .int fc_, .int fn_]))) (hk1 : ws[k1]? = some (h1, .inl (ct.1, 3185, .inr (.inl ro))))  (r0 : Int64) (h : f_T_at sz ro rw wh = some r0) : Met l y_T_at w_T_at rm_T_at (va_Pc [.ref h0, .int rw, .int wh] (PreP D ct ws)) (vp_Sl (fun r => r = r0)) 0 0 (fun _ => False) := by
  refine Met.ofW (cc := b_T_at) (maxL := 3) (ret := (some .long)) (by decide) rfl ?_
  intro p e s m args below meth c s₁ B hml hv
  obtain ⟨rfl, hP, hKK⟩ := hv
  have hx := B.exec
  have hb := B.bytes
  have hr := B.returns
  have htg := ht_tl (atoms_spec (ws := w_T_at) B.pre)
  have hown : s.vm.findClass R_Table = some m.cls := findClass_of_methodNamed B.named
  have hlocks := B.notSynchronized
  have hK := hKK.1
  have hN := hKK.2.1
  have hO := hKK.2.2
  have hl := lv_entry ([.ref h0, .int rw, .int wh]) (n := 3) (Nat.le_of_ble_eq_true rfl)
  rw [lg_entry_eq]
  generalize (lg_sl ([.ref h0, .int rw, .int wh]) ++ List.replicate (3 - (lg_sl ([.ref h0, .int rw, .int wh])).length) Slot.unset).toArray = ls at hl ⊢
  have hl : lv_has ls 3 [(0, .ref h0), (1, .int rw), (2, .int wh)] := hl
  unfold f_T_at at h
  refine lv_iload_n hx hb d_T_at_0 rfl (lv_at hl 1 rfl) ?_
  refine lv_if_lt (tgt := 29) hx hb d_T_at_1 (by decide) (fun c_1 => ?_) (fun c_1 => ?_)
  · rw [if_pos c_1] at h
    refine lv_lconst (v := (0 : Int64)) hx hb d_T_at_29 (by decide) ?_
    exact W.lret (v := (0 : Int64)) hx hb hr (fun t ht hW => ⟨(0 : Int64), rfl, (Option.some.inj h), ht⟩) (fun q h => by cases h) d_T_at_30
  · rw [if_neg c_1] at h
    refine lv_iload_n hx hb d_T_at_4 rfl (lv_at hl 1 rfl) ?_
    refine lv_aload_n hx hb d_T_at_5 rfl (lv_at hl 0 rfl) ?_
    refine va_get (D := D) (ci := 2) (v := .int sz) (C := R_Table) (T := F_Table) (N := 5) hx hb htg i_Table hown hK hP k0 hk0 rfl 2 (by decide) (htg _ tm_86) (fun _ h9 => h9) rfl d_T_at_6 ?_
    refine lv_icmp_ge (tgt := 29) hx hb d_T_at_9 (by decide) (fun c_2 => ?_) (fun c_2 => ?_)
    · rw [if_pos c_2] at h
      refine lv_lconst (v := (0 : Int64)) hx hb d_T_at_29 (by decide) ?_
      exact W.lret (v := (0 : Int64)) hx hb hr (fun t ht hW => ⟨(0 : Int64), rfl, (Option.some.inj h), ht⟩) (fun q h => by cases h) d_T_at_30
    · rw [if_neg c_2] at h
      refine lv_iload_n hx hb d_T_at_12 rfl (lv_at hl 1 rfl) ?_
      refine lv_sipush (v := (455 : Int32)) hx hb d_T_at_13 (by decide) ?_
      refine lv_icmp_ge (tgt := 29) hx hb d_T_at_16 (by decide) (fun c_3 => ?_) (fun c_3 => ?_)
      · rw [if_pos c_3] at h
        refine lv_lconst (v := (0 : Int64)) hx hb d_T_at_29 (by decide) ?_
        exact W.lret (v := (0 : Int64)) hx hb hr (fun t ht hW => ⟨(0 : Int64), rfl, (Option.some.inj h), ht⟩) (fun q h => by cases h) d_T_at_30
      · rw [if_neg c_3] at h
        refine lv_iload_n hx hb d_T_at_19 rfl (lv_at hl 2 rfl) ?_
        refine lv_if_lt (tgt := 29) hx hb d_T_at_20 (by decide) (fun c_4 => ?_) (fun c_4 => ?_)
        · rw [if_pos c_4] at h
          refine lv_lconst (v := (0 : Int64)) hx hb d_T_at_29 (by decide) ?_
          exact W.lret (v := (0 : Int64)) hx hb hr (fun t ht hW => ⟨(0 : Int64), rfl, (Option.some.inj h), ht⟩) (fun q h => by cases h) d_T_at_30
        · rw [if_neg c_4] at h
          refine lv_iload_n hx hb d_T_at_23 rfl (lv_at hl 2 rfl) ?_
          refine lv_bipush (v := (7 : Int32)) hx hb d_T_at_24 (by decide) ?_
          refine lv_icmp_lt (tgt := 31) hx hb d_T_at_26 (by decide) (fun c_5 => ?_) (fun c_5 => ?_)
          · rw [if_pos c_5] at h
            refine lv_aload_n hx hb d_T_at_31 rfl (lv_at hl 0 rfl) ?_
            refine va_get (D := D) (ci := 2) (v := .ref h1) (C := R_Table) (T := F_Table) (N := 5) hx hb htg i_Table hown hK hP k0 hk0 rfl 1 (by decide) (htg _ tm_85) (fun _ h9 => h9) rfl d_T_at_32 ?_
            refine lv_iload_n hx hb d_T_at_35 rfl (lv_at hl 1 rfl) ?_
            refine lv_bipush (v := (7 : Int32)) hx hb d_T_at_36 (by decide) ?_
            refine lv_imul hx hb d_T_at_38 ?_
            refine lv_iload_n hx hb d_T_at_39 rfl (lv_at hl 2 rfl) ?_
            refine lv_iadd hx hb d_T_at_40 ?_
            by_cases b_6 : inb ((rw * (7 : Int32)) + wh) 3185 = true
            rotate_left
            · rw [if_neg b_6] at h; cases h
            rw [if_pos b_6] at h
            refine va_lald hx hb hK hP k1 0 hk1 rfl (inb_in b_6) d_T_at_41 ?_
            exact W.lret (v := ro ((rw * (7 : Int32)) + wh).toNatClampNeg) hx hb hr (fun t ht hW => ⟨ro ((rw * (7 : Int32)) + wh).toNatClampNeg, rfl, (Option.some.inj h), ht⟩) (fun q h => by cases h) d_T_at_42
          · rw [if_neg c_5] at h
            refine lv_lconst (v := (0 : Int64)) hx hb d_T_at_29 (by decide) ?_
            exact W.lret (v := (0 : Int64)) hx hb hr (fun t ht hW => ⟨(0 : Int64), rfl, (Option.some.inj h), ht⟩) (fun q h => by cases h) d_T_at_30
-- CellBench$MultipleTable orderToReduced (I)I
def lp_T_ordR_2 (sz : Int32) (ro : Nat → Int64) (ra : Int64) (rb : Int64) (rc : Int64) (rx : Int64) (ry : Int64) (rz : Int64) (rs : Int32) (rw : Int32) : Nat → Int32 → Option (Int32)
  | 0, _ => none
  | n + 1, wh =>
    if (6 : Int32) ≤ wh then (some (0 : Int32)) else (Option.bind (f_T_at sz ro rw wh) (fun z_5 => (if (f_Long_cmp z_5 (f_R_at ra rb rc rx ry rz rs wh)) = 0 then (lp_T_ordR_2 sz ro ra rb rc rx ry rz rs rw n (wh + (1 : Int32))) else (some (f_Long_cmp z_5 (f_R_at ra rb rc rx ry rz rs wh))))))
def f_T_ordR (sz : Int32) (ro : Nat → Int64) (ra : Int64) (rb : Int64) (rc : Int64) (rx : Int64) (ry : Int64) (rz : Int64) (rs : Int32) (rw : Int32) : Option (Int32) :=
    lp_T_ordR_2 sz ro ra rb rc rx ry rz rs rw 7 (0 : Int32)
def w_T_ordR : List Cond := .code y_T_ordR b_T_ordR 4 (some .int) :: GW
abbrev rm_T_ordR : Room := { frames := 1, cells := 0, slots := 0, locals := 23 }
theorem g_T_ordR : GoodIn GW w_T_ordR := gi tm_342
set_option maxHeartbeats 4000000 in
set_option maxRecDepth 100000 in
theorem c_T_ordR (l : Launch) (D : va_G) (ct : CT) (ws : va_W) (k0 : Nat) (k1 : Nat) (k2 : Nat) (h0 : Nat) (h2 : Nat) (h1 : Nat) (sz : Int32) (fc_ : Int32) (fn_ : Int32) (ro : Nat → Int64) (ra : Int64) (rb : Int64) (rc : Int64) (rx : Int64) (ry : Int64) (rz : Int64) (rs : Int32) (rw : Int32) (hk0 : ws[k0]? = some (h0, .inr (2, [.ref h2, .ref h1, .int sz, .int fc_, .int fn_]))) (hk1 : ws[k1]? = some (h1, .inl (ct.1, 3185, .inr (.inl ro)))) (hk2 : ws[k2]? = some (h2, .inr (1, [.long ra, .long rb, .long rc, .long rx, .long ry, .long rz, .int rs])))  (r0 : Int32) (h : f_T_ordR sz ro ra rb rc rx ry rz rs rw = some r0) : Met l y_T_ordR w_T_ordR rm_T_ordR (va_Pc [.ref h0, .int rw] (PreP D ct ws)) (vp_Si (fun r => r = r0)) 0 0 (fun _ => False) := by
  refine Met.ofW (cc := b_T_ordR) (maxL := 4) (ret := (some .int)) (by decide) rfl ?_
  intro p e s m args below meth c s₁ B hml hv
  obtain ⟨rfl, hP, hKK⟩ := hv
  have hx := B.exec
  have hb := B.bytes
  have hr := B.returns
  have htg := ht_tl (atoms_spec (ws := w_T_ordR) B.pre)
  have hown : s.vm.findClass R_Table = some m.cls := findClass_of_methodNamed B.named
  have hlocks := B.notSynchronized
  have hK := hKK.1
  have hN := hKK.2.1
  have hO := hKK.2.2
  have hl := lv_entry ([.ref h0, .int rw]) (n := 4) (Nat.le_of_ble_eq_true rfl)
  rw [lg_entry_eq]
  generalize (lg_sl ([.ref h0, .int rw]) ++ List.replicate (4 - (lg_sl ([.ref h0, .int rw])).length) Slot.unset).toArray = ls at hl ⊢
  have hl : lv_has ls 4 [(0, .ref h0), (1, .int rw)] := hl
  unfold f_T_ordR at h
  refine lv_iconst (v := (0 : Int32)) hx hb d_T_ordR_0 (by decide) ?_
  refine lv_istore_n (lv' := [(2, .int (0 : Int32)), (0, .ref h0), (1, .int rw)]) hx hb d_T_ordR_1 rfl hl (by decide) rfl (fun ls hl => ?_)
  have L_2 : ∀ (n : Nat) (wh : Int32) , lp_T_ordR_2 sz ro ra rb rc rx ry rz rs rw n wh = some r0 → ∀ (ls : Array Slot), lv_has ls 4 [(2, .int wh), (0, .ref h0), (1, .int rw)] → W p l e (headSpec w_T_ordR rm_T_ordR).room s m ([.ref h0, .int rw] : List Value).toArray below meth c s.heap [] 0 0 (MQ below (vp_Si (fun r => r = r0)) ([.ref h0, .int rw] : List Value).toArray s 0 0 (fun _ => False)) (F0 m 2 ls []) := by
    intro n
    induction n with
    | zero =>
      intro wh  h
      rw [lp_T_ordR_2] at h
      cases h
    | succ n ih =>
      intro wh  h ls hl
      rw [lp_T_ordR_2] at h
      refine lv_iload_n hx hb d_T_ordR_2 rfl (lv_at hl 0 rfl) ?_
      refine lv_bipush (v := (6 : Int32)) hx hb d_T_ordR_3 (by decide) ?_
      refine lv_icmp_ge (tgt := 38) hx hb d_T_ordR_5 (by decide) (fun c_1 => ?_) (fun c_1 => ?_)
      · rw [if_pos c_1] at h
        refine lv_iconst (v := (0 : Int32)) hx hb d_T_ordR_38 (by decide) ?_
        exact W.iret (v := (0 : Int32)) hx hb hr (fun t ht hW => ⟨(0 : Int32), rfl, (Option.some.inj h), ht⟩) (fun q h => by cases h) d_T_ordR_39
      · rw [if_neg c_1] at h
        refine lv_aload_n hx hb d_T_ordR_8 rfl (lv_at hl 1 rfl) ?_
        refine lv_iload_n hx hb d_T_ordR_9 rfl (lv_at hl 2 rfl) ?_
        refine lv_iload_n hx hb d_T_ordR_10 rfl (lv_at hl 0 rfl) ?_
        rcases e_2 : f_T_at sz ro rw wh with _ | v_3
        · rw [e_2] at h; cases h
        rw [e_2, Option.bind_some] at h
        try dsimp only at h
        refine vp_callSl (va_Run.run (va_runV (As := [.int rw, .int wh]) (rest := []) ⟨hx, hb, hml, hown, htg⟩ (c_T_at l D ct ws k0 k1 h0 h2 h1 sz fc_ fn_ ro rw wh hk0 hk1  _ e_2) (cwV 2 htg (giV tm_343 tm_344 tm_345 tm_33 g_T_at) rfl rfl rfl (by decide +kernel) ⟨Nat.le_of_ble_eq_true rfl, Nat.le_of_ble_eq_true rfl⟩) (preV hP hKK (va_recv hK hP (ci := 2) (q0 := k0) rfl hk0)) rfl rfl hl.1 rfl (lv_room (Nat.le_of_ble_eq_true rfl)) d_T_ordR_11 ⟨Nat.le_of_ble_eq_true rfl, Nat.le_of_ble_eq_true rfl⟩)) (fun r9 hr9 => ?_)
        have hr9 := hr9.symm
        subst hr9
        refine lv_aload_n hx hb d_T_ordR_14 rfl (lv_at hl 1 rfl) ?_
        refine va_get (D := D) (ci := 2) (v := .ref h2) (C := R_Table) (T := F_Table) (N := 5) hx hb htg i_Table hown hK hP k0 hk0 rfl 0 (by decide) (htg _ tm_84) (fun _ h9 => h9) rfl d_T_ordR_15 ?_
        refine lv_iload_n hx hb d_T_ordR_18 rfl (lv_at hl 0 rfl) ?_
        refine vp_callSl (va_Run.run (va_runV (As := [.int wh]) (rest := [.long v_3]) ⟨hx, hb, hml, hown, htg⟩ (c_R_at l D ct ws k2 h2 ra rb rc rx ry rz rs wh hk2  _ rfl) (cwV 1 htg (giV tm_347 tm_348 tm_349 tm_32 g_R_at) rfl rfl rfl (by decide +kernel) ⟨Nat.le_of_ble_eq_true rfl, Nat.le_of_ble_eq_true rfl⟩) (preV hP hKK (va_recv hK hP (ci := 1) (q0 := k2) rfl hk2)) rfl rfl hl.1 rfl (lv_room (Nat.le_of_ble_eq_true rfl)) d_T_ordR_19 ⟨Nat.le_of_ble_eq_true rfl, Nat.le_of_ble_eq_true rfl⟩)) (fun r9 hr9 => ?_)
        subst hr9
        refine vp_callSi (va_Run.run (va_runS (As := [.long v_3, .long (f_R_at ra rb rc rx ry rz rs wh)]) (rest := []) ⟨hx, hb, hml, hown, htg⟩ (c_Long_cmp l D ct ws  v_3 (f_R_at ra rb rc rx ry rz rs wh)   _ rfl) ⟨callB_of 2 htg g_Long_cmp rfl rfl rfl (htg _ tm_37) (htg _ tm_351) (by decide +kernel) ⟨Nat.le_of_ble_eq_true rfl, Nat.le_of_ble_eq_true rfl⟩, (htg _ tm_200)⟩ (preS hP hKK) rfl rfl hl.1 rfl (lv_room (Nat.le_of_ble_eq_true rfl)) d_T_ordR_22 ⟨Nat.le_of_ble_eq_true rfl, Nat.le_of_ble_eq_true rfl⟩)) (fun r9 hr9 => ?_)
        subst hr9
        refine lv_istore_n (lv' := [(3, .int (f_Long_cmp v_3 (f_R_at ra rb rc rx ry rz rs wh))), (2, .int wh), (0, .ref h0), (1, .int rw)]) hx hb d_T_ordR_25 rfl hl (by decide) rfl (fun ls hl => ?_)
        refine lv_iload_n hx hb d_T_ordR_26 rfl (lv_at hl 0 rfl) ?_
        refine lv_if_eq (tgt := 32) hx hb d_T_ordR_27 (by decide) (fun c_4 => ?_) (fun c_4 => ?_)
        · rw [if_pos c_4] at h
          refine lv_iinc (v := wh + (1 : Int32)) (lv' := [(2, .int (wh + (1 : Int32))), (3, .int (f_Long_cmp v_3 (f_R_at ra rb rc rx ry rz rs wh))), (0, .ref h0), (1, .int rw)]) hx hb d_T_ordR_32 hl (k := 1) rfl rfl (by decide) rfl (fun ls hl => ?_)
          refine lv_goto (tgt := 2) hx hb d_T_ordR_35 (by decide) ?_
          exact ih (wh + (1 : Int32)) h ls (lv_sub hl [0, 2, 3] rfl)
        · rw [if_neg c_4] at h
          refine lv_iload_n hx hb d_T_ordR_30 rfl (lv_at hl 0 rfl) ?_
          exact W.iret (v := f_Long_cmp v_3 (f_R_at ra rb rc rx ry rz rs wh)) hx hb hr (fun t ht hW => ⟨f_Long_cmp v_3 (f_R_at ra rb rc rx ry rz rs wh), rfl, (Option.some.inj h), ht⟩) (fun q h => by cases h) d_T_ordR_31
  exact L_2 7 (0 : Int32) h ls (lv_sub hl [0, 1, 2] rfl)
-- CellBench$MultipleTable firstNotBelow ()I
def lp_T_first_7 (sz : Int32) (ro : Nat → Int64) (ra : Int64) (rb : Int64) (rc : Int64) (rx : Int64) (ry : Int64) (rz : Int64) (rs : Int32) : Nat → Int32 → Int32 → Option (Int32)
  | 0, _, _ => none
  | n + 1, fr, sp =>
    if sp ≤ 0 then (some fr) else (Option.bind (f_T_ordR sz ro ra rb rc rx ry rz rs (fr + (sp / (2 : Int32)))) (fun z_5 => (if 0 ≤ z_5 then (lp_T_first_7 sz ro ra rb rc rx ry rz rs n fr (sp / (2 : Int32))) else (lp_T_first_7 sz ro ra rb rc rx ry rz rs n (fr + ((sp / (2 : Int32)) + (1 : Int32))) (sp - ((sp / (2 : Int32)) + (1 : Int32)))))))
def f_T_first (sz : Int32) (ro : Nat → Int64) (ra : Int64) (rb : Int64) (rc : Int64) (rx : Int64) (ry : Int64) (rz : Int64) (rs : Int32) : Option (Int32) :=
    lp_T_first_7 sz ro ra rb rc rx ry rz rs 500 (0 : Int32) sz
def w_T_first : List Cond := .code y_T_first b_T_first 4 (some .int) :: GW
abbrev rm_T_first : Room := { frames := 2, cells := 0, slots := 0, locals := 46 }
theorem g_T_first : GoodIn GW w_T_first := gi tm_338
set_option maxHeartbeats 4000000 in
set_option maxRecDepth 100000 in
theorem c_T_first (l : Launch) (D : va_G) (ct : CT) (ws : va_W) (k0 : Nat) (k1 : Nat) (k2 : Nat) (h0 : Nat) (h2 : Nat) (h1 : Nat) (sz : Int32) (fc_ : Int32) (fn_ : Int32) (ro : Nat → Int64) (ra : Int64) (rb : Int64) (rc : Int64) (rx : Int64) (ry : Int64) (rz : Int64) (rs : Int32) (hk0 : ws[k0]? = some (h0, .inr (2, [.ref h2, .ref h1, .int sz, .int fc_, .int fn_]))) (hk1 : ws[k1]? = some (h1, .inl (ct.1, 3185, .inr (.inl ro)))) (hk2 : ws[k2]? = some (h2, .inr (1, [.long ra, .long rb, .long rc, .long rx, .long ry, .long rz, .int rs])))  (r0 : Int32) (h : f_T_first sz ro ra rb rc rx ry rz rs = some r0) : Met l y_T_first w_T_first rm_T_first (va_Pc [.ref h0] (PreP D ct ws)) (vp_Si (fun r => r = r0)) 0 0 (fun _ => False) := by
  refine Met.ofW (cc := b_T_first) (maxL := 4) (ret := (some .int)) (by decide) rfl ?_
  intro p e s m args below meth c s₁ B hml hv
  obtain ⟨rfl, hP, hKK⟩ := hv
  have hx := B.exec
  have hb := B.bytes
  have hr := B.returns
  have htg := ht_tl (atoms_spec (ws := w_T_first) B.pre)
  have hown : s.vm.findClass R_Table = some m.cls := findClass_of_methodNamed B.named
  have hlocks := B.notSynchronized
  have hK := hKK.1
  have hN := hKK.2.1
  have hO := hKK.2.2
  have hl := lv_entry ([.ref h0]) (n := 4) (Nat.le_of_ble_eq_true rfl)
  rw [lg_entry_eq]
  generalize (lg_sl ([.ref h0]) ++ List.replicate (4 - (lg_sl ([.ref h0])).length) Slot.unset).toArray = ls at hl ⊢
  have hl : lv_has ls 4 [(0, .ref h0)] := hl
  unfold f_T_first at h
  refine lv_iconst (v := (0 : Int32)) hx hb d_T_first_0 (by decide) ?_
  refine lv_istore_n (lv' := [(1, .int (0 : Int32)), (0, .ref h0)]) hx hb d_T_first_1 rfl hl (by decide) rfl (fun ls hl => ?_)
  refine lv_aload_n hx hb d_T_first_2 rfl (lv_at hl 1 rfl) ?_
  refine va_get (D := D) (ci := 2) (v := .int sz) (C := R_Table) (T := F_Table) (N := 5) hx hb htg i_Table hown hK hP k0 hk0 rfl 2 (by decide) (htg _ tm_86) (fun _ h9 => h9) rfl d_T_first_3 ?_
  refine lv_istore_n (lv' := [(2, .int sz), (1, .int (0 : Int32)), (0, .ref h0)]) hx hb d_T_first_6 rfl hl (by decide) rfl (fun ls hl => ?_)
  have L_7 : ∀ (n : Nat) (fr : Int32) (sp : Int32) , lp_T_first_7 sz ro ra rb rc rx ry rz rs n fr sp = some r0 → ∀ (ls : Array Slot), lv_has ls 4 [(1, .int fr), (2, .int sp), (0, .ref h0)] → W p l e (headSpec w_T_first rm_T_first).room s m ([.ref h0] : List Value).toArray below meth c s.heap [] 0 0 (MQ below (vp_Si (fun r => r = r0)) ([.ref h0] : List Value).toArray s 0 0 (fun _ => False)) (F0 m 7 ls []) := by
    intro n
    induction n with
    | zero =>
      intro fr sp  h
      rw [lp_T_first_7] at h
      cases h
    | succ n ih =>
      intro fr sp  h ls hl
      rw [lp_T_first_7] at h
      refine lv_iload_n hx hb d_T_first_7 rfl (lv_at hl 1 rfl) ?_
      refine lv_if_le (tgt := 45) hx hb d_T_first_8 (by decide) (fun c_1 => ?_) (fun c_1 => ?_)
      · rw [if_pos c_1] at h
        refine lv_iload_n hx hb d_T_first_45 rfl (lv_at hl 0 rfl) ?_
        exact W.iret (v := fr) hx hb hr (fun t ht hW => ⟨fr, rfl, (Option.some.inj h), ht⟩) (fun q h => by cases h) d_T_first_46
      · rw [if_neg c_1] at h
        refine lv_iload_n hx hb d_T_first_11 rfl (lv_at hl 1 rfl) ?_
        refine lv_iconst (v := (2 : Int32)) hx hb d_T_first_12 (by decide) ?_
        refine lv_idiv hx hb d_T_first_13 (by decide) ?_
        refine lv_istore_n (lv' := [(3, .int (sp / (2 : Int32))), (1, .int fr), (2, .int sp), (0, .ref h0)]) hx hb d_T_first_14 rfl hl (by decide) rfl (fun ls hl => ?_)
        refine lv_aload_n hx hb d_T_first_15 rfl (lv_at hl 3 rfl) ?_
        refine lv_iload_n hx hb d_T_first_16 rfl (lv_at hl 1 rfl) ?_
        refine lv_iload_n hx hb d_T_first_17 rfl (lv_at hl 0 rfl) ?_
        refine lv_iadd hx hb d_T_first_18 ?_
        rcases e_2 : f_T_ordR sz ro ra rb rc rx ry rz rs (fr + (sp / (2 : Int32))) with _ | v_3
        · rw [e_2] at h; cases h
        rw [e_2, Option.bind_some] at h
        try dsimp only at h
        refine vp_callSi (va_Run.run (va_runV (As := [.int (fr + (sp / (2 : Int32)))]) (rest := []) ⟨hx, hb, hml, hown, htg⟩ (c_T_ordR l D ct ws k0 k1 k2 h0 h2 h1 sz fc_ fn_ ro ra rb rc rx ry rz rs (fr + (sp / (2 : Int32))) hk0 hk1 hk2  _ e_2) (cwV 1 htg (giV tm_339 tm_341 tm_16 tm_33 g_T_ordR) rfl rfl rfl (by decide +kernel) ⟨Nat.le_of_ble_eq_true rfl, Nat.le_of_ble_eq_true rfl⟩) (preV hP hKK (va_recv hK hP (ci := 2) (q0 := k0) rfl hk0)) rfl rfl hl.1 rfl (lv_room (Nat.le_of_ble_eq_true rfl)) d_T_first_19 ⟨Nat.le_of_ble_eq_true rfl, Nat.le_of_ble_eq_true rfl⟩)) (fun r9 hr9 => ?_)
        have hr9 := hr9.symm
        subst hr9
        refine lv_if_ge (tgt := 40) hx hb d_T_first_22 (by decide) (fun c_4 => ?_) (fun c_4 => ?_)
        · rw [if_pos c_4] at h
          refine lv_iload_n hx hb d_T_first_40 rfl (lv_at hl 0 rfl) ?_
          refine lv_istore_n (lv' := [(2, .int (sp / (2 : Int32))), (3, .int (sp / (2 : Int32))), (1, .int fr), (0, .ref h0)]) hx hb d_T_first_41 rfl hl (by decide) rfl (fun ls hl => ?_)
          refine lv_goto (tgt := 7) hx hb d_T_first_42 (by decide) ?_
          exact ih fr (sp / (2 : Int32)) h ls (lv_sub hl [2, 0, 3] rfl)
        · rw [if_neg c_4] at h
          refine lv_iload_n hx hb d_T_first_25 rfl (lv_at hl 1 rfl) ?_
          refine lv_iload_n hx hb d_T_first_26 rfl (lv_at hl 0 rfl) ?_
          refine lv_iconst (v := (1 : Int32)) hx hb d_T_first_27 (by decide) ?_
          refine lv_iadd hx hb d_T_first_28 ?_
          refine lv_iadd hx hb d_T_first_29 ?_
          refine lv_istore_n (lv' := [(1, .int (fr + ((sp / (2 : Int32)) + (1 : Int32)))), (3, .int (sp / (2 : Int32))), (2, .int sp), (0, .ref h0)]) hx hb d_T_first_30 rfl hl (by decide) rfl (fun ls hl => ?_)
          refine lv_iload_n hx hb d_T_first_31 rfl (lv_at hl 2 rfl) ?_
          refine lv_iload_n hx hb d_T_first_32 rfl (lv_at hl 1 rfl) ?_
          refine lv_iconst (v := (1 : Int32)) hx hb d_T_first_33 (by decide) ?_
          refine lv_iadd hx hb d_T_first_34 ?_
          refine lv_isub hx hb d_T_first_35 ?_
          refine lv_istore_n (lv' := [(2, .int (sp - ((sp / (2 : Int32)) + (1 : Int32)))), (1, .int (fr + ((sp / (2 : Int32)) + (1 : Int32)))), (3, .int (sp / (2 : Int32))), (0, .ref h0)]) hx hb d_T_first_36 rfl hl (by decide) rfl (fun ls hl => ?_)
          refine lv_goto (tgt := 42) hx hb d_T_first_37 (by decide) ?_
          refine lv_goto (tgt := 7) hx hb d_T_first_42 (by decide) ?_
          exact ih (fr + ((sp / (2 : Int32)) + (1 : Int32))) (sp - ((sp / (2 : Int32)) + (1 : Int32))) h ls (lv_sub hl [1, 0, 3] rfl)
  exact L_7 500 (0 : Int32) sz h ls (lv_sub hl [1, 0, 2] rfl)
-- CellBench$MultipleTable insert (I)V
def lp_T_insert_32 (ra : Int64) (rb : Int64) (rc : Int64) (rx : Int64) (ry : Int64) (rz : Int64) (rs : Int32) (rw : Int32) : Nat → Int32 → Int32 → (Nat → Int64) → Int32 → Option ((Nat → Int64) × Int32)
  | 0, _, _, _, _ => none
  | n + 1, fr, wh, ro, sz =>
    if (6 : Int32) ≤ wh then (if inb (fr + (6 : Int32)) 3185 = true then (some (vp_updL ro (fr + (6 : Int32)).toNatClampNeg (0 : Int64), sz + (1 : Int32))) else none) else (if inb (fr + wh) 3185 = true then (lp_T_insert_32 ra rb rc rx ry rz rs rw n fr (wh + (1 : Int32)) (vp_updL ro (fr + wh).toNatClampNeg (f_R_at ra rb rc rx ry rz rs wh)) sz) else none)
def f_T_insert (sz : Int32) (ro : Nat → Int64) (ra : Int64) (rb : Int64) (rc : Int64) (rx : Int64) (ry : Int64) (rz : Int64) (rs : Int32) (rw : Int32) : Option ((Nat → Int64) × Int32) :=
    if cpk (rw * (7 : Int32)) ((rw * (7 : Int32)) + (7 : Int32)) ((sz - rw) * (7 : Int32)) 3185 3185 = true then (lp_T_insert_32 ra rb rc rx ry rz rs rw 7 (rw * (7 : Int32)) (0 : Int32) (va_cpy ro ro (rw * (7 : Int32)).toNatClampNeg ((rw * (7 : Int32)) + (7 : Int32)).toNatClampNeg ((sz - rw) * (7 : Int32)).toNatClampNeg) sz) else none
def w_T_insert : List Cond := .code y_T_insert b_T_insert 4 none :: GW
abbrev rm_T_insert : Room := { frames := 1, cells := 0, slots := 0, locals := 60 }
theorem g_T_insert : GoodIn GW w_T_insert := gi tm_355
set_option maxHeartbeats 4000000 in
set_option maxRecDepth 100000 in
theorem c_T_insert (l : Launch) (D : va_G) (ct : CT) (A : Nat → Prop) (wt : va_W)  (h0 : Nat) (h2 : Nat) (h1 : Nat) (sz : Int32) (fc_ : Int32) (fn_ : Int32) (ro : Nat → Int64) (ra : Int64) (rb : Int64) (rc : Int64) (rx : Int64) (ry : Int64) (rz : Int64) (rs : Int32) (rw : Int32)   (r0 : (Nat → Int64) × Int32) (h : f_T_insert sz ro ra rb rc rx ry rz rs rw = some r0) : Met l y_T_insert w_T_insert rm_T_insert (va_Pc [.ref h0, .int rw] (PreM D ct A ([(h0, .inr (2, [.ref h2, .ref h1, .int sz, .int fc_, .int fn_])), (h1, .inl (ct.1, 3185, .inr (.inl ro))), (h2, .inr (1, [.long ra, .long rb, .long rc, .long rx, .long ry, .long rz, .int rs]))] ++ wt))) (va_Qv (fun u => u = r0) (fun (u : (Nat → Int64) × Int32) t => match u with | (ro', sz') => va_P D classes ([(h0, .inr (2, [.ref h2, .ref h1, .int sz', .int fc_, .int fn_])), (h1, .inl (ct.1, 3185, .inr (.inl ro'))), (h2, .inr (1, [.long ra, .long rb, .long rc, .long rx, .long ry, .long rz, .int rs]))] ++ wt) t.heap ∧ va_D A ([(h0, .inr (2, [.ref h2, .ref h1, .int sz', .int fc_, .int fn_])), (h1, .inl (ct.1, 3185, .inr (.inl ro'))), (h2, .inr (1, [.long ra, .long rb, .long rc, .long rx, .long ry, .long rz, .int rs]))] ++ wt)) A) 0 0 A := by
  refine Met.ofW (cc := b_T_insert) (maxL := 4) (ret := none) (by decide) rfl ?_
  intro p e s m args below meth c s₁ B hml hv
  obtain ⟨rfl, hA, hP, hD, hKK⟩ := hv
  have hx := B.exec
  have hb := B.bytes
  have hr := B.returns
  have htg := ht_tl (atoms_spec (ws := w_T_insert) B.pre)
  have hown : s.vm.findClass R_Table = some m.cls := findClass_of_methodNamed B.named
  have hlocks := B.notSynchronized
  have hK := hKK.1
  have hN := hKK.2.1
  have hO := hKK.2.2
  have hS : va_S A s.heap s.heap [] := va_S.rf
  have hl := lv_entry ([.ref h0, .int rw]) (n := 4) (Nat.le_of_ble_eq_true rfl)
  rw [lg_entry_eq]
  generalize (lg_sl ([.ref h0, .int rw]) ++ List.replicate (4 - (lg_sl ([.ref h0, .int rw])).length) Slot.unset).toArray = ls at hl ⊢
  have hl : lv_has ls 4 [(0, .ref h0), (1, .int rw)] := hl
  unfold f_T_insert at h
  refine lv_iload_n hx hb d_T_insert_0 rfl (lv_at hl 1 rfl) ?_
  refine lv_bipush (v := (7 : Int32)) hx hb d_T_insert_1 (by decide) ?_
  refine lv_imul hx hb d_T_insert_3 ?_
  refine lv_istore_n (lv' := [(2, .int (rw * (7 : Int32))), (0, .ref h0), (1, .int rw)]) hx hb d_T_insert_4 rfl hl (by decide) rfl (fun ls hl => ?_)
  refine lv_aload_n hx hb d_T_insert_5 rfl (lv_at hl 1 rfl) ?_
  refine va_get (D := D) (ci := 2) (v := .ref h1) (C := R_Table) (T := F_Table) (N := 5) hx hb htg i_Table hown hK hP 0 rfl rfl 1 (by decide) (htg _ tm_85) (fun _ h9 => h9) rfl d_T_insert_6 ?_
  refine lv_iload_n hx hb d_T_insert_9 rfl (lv_at hl 0 rfl) ?_
  refine lv_aload_n hx hb d_T_insert_10 rfl (lv_at hl 1 rfl) ?_
  refine va_get (D := D) (ci := 2) (v := .ref h1) (C := R_Table) (T := F_Table) (N := 5) hx hb htg i_Table hown hK hP 0 rfl rfl 1 (by decide) (htg _ tm_85) (fun _ h9 => h9) rfl d_T_insert_11 ?_
  refine lv_iload_n hx hb d_T_insert_14 rfl (lv_at hl 0 rfl) ?_
  refine lv_bipush (v := (7 : Int32)) hx hb d_T_insert_15 (by decide) ?_
  refine lv_iadd hx hb d_T_insert_17 ?_
  refine lv_aload_n hx hb d_T_insert_18 rfl (lv_at hl 1 rfl) ?_
  refine va_get (D := D) (ci := 2) (v := .int sz) (C := R_Table) (T := F_Table) (N := 5) hx hb htg i_Table hown hK hP 0 rfl rfl 2 (by decide) (htg _ tm_86) (fun _ h9 => h9) rfl d_T_insert_19 ?_
  refine lv_iload_n hx hb d_T_insert_22 rfl (lv_at hl 2 rfl) ?_
  refine lv_isub hx hb d_T_insert_23 ?_
  refine lv_bipush (v := (7 : Int32)) hx hb d_T_insert_24 (by decide) ?_
  refine lv_imul hx hb d_T_insert_26 ?_
  by_cases b_1 : cpk (rw * (7 : Int32)) ((rw * (7 : Int32)) + (7 : Int32)) ((sz - rw) * (7 : Int32)) 3185 3185 = true
  rotate_left
  · rw [if_neg b_1] at h; cases h
  rw [if_pos b_1] at h
  refine va_copyl (ty := .long) hx hb (by rw [hml]; exact hl.1.symm) hown (htg _ tm_356) (htg _ tm_358) (htg _ tm_357) (htg _ tm_39) hK hP hD hS 1 1 0 0 rfl rfl rfl rfl rfl (cpk_1 b_1) (cpk_2 b_1) (cpk_3 b_1) (cpk_4 b_1) (cpk_5 b_1) (fun _ _ => rfl) (Nat.le_of_ble_eq_true rfl) (Nat.le_of_ble_eq_true rfl) d_T_insert_27 (fun H locs hP hD hS => ?_)
  have hP : va_P D classes ([(h0, .inr (2, [.ref h2, .ref h1, .int sz, .int fc_, .int fn_])), (h1, .inl (ct.1, 3185, .inr (.inl (va_cpy ro ro (rw * (7 : Int32)).toNatClampNeg ((rw * (7 : Int32)) + (7 : Int32)).toNatClampNeg ((sz - rw) * (7 : Int32)).toNatClampNeg)))), (h2, .inr (1, [.long ra, .long rb, .long rc, .long rx, .long ry, .long rz, .int rs]))] ++ wt) H := hP
  have hD : va_D A ([(h0, .inr (2, [.ref h2, .ref h1, .int sz, .int fc_, .int fn_])), (h1, .inl (ct.1, 3185, .inr (.inl (va_cpy ro ro (rw * (7 : Int32)).toNatClampNeg ((rw * (7 : Int32)) + (7 : Int32)).toNatClampNeg ((sz - rw) * (7 : Int32)).toNatClampNeg)))), (h2, .inr (1, [.long ra, .long rb, .long rc, .long rx, .long ry, .long rz, .int rs]))] ++ wt) := hD
  refine lv_iconst (v := (0 : Int32)) hx hb d_T_insert_30 (by decide) ?_
  refine lv_istore_n (lv' := [(3, .int (0 : Int32)), (2, .int (rw * (7 : Int32))), (0, .ref h0), (1, .int rw)]) hx hb d_T_insert_31 rfl hl (by decide) rfl (fun ls hl => ?_)
  have L_32 : ∀ (n : Nat) (fr : Int32) (wh : Int32) (ro : Nat → Int64) (sz : Int32) , lp_T_insert_32 ra rb rc rx ry rz rs rw n fr wh ro sz = some r0 → ∀ (H : Heap) (locs : List Loc), va_P D classes ([(h0, .inr (2, [.ref h2, .ref h1, .int sz, .int fc_, .int fn_])), (h1, .inl (ct.1, 3185, .inr (.inl ro))), (h2, .inr (1, [.long ra, .long rb, .long rc, .long rx, .long ry, .long rz, .int rs]))] ++ wt) H → va_D A ([(h0, .inr (2, [.ref h2, .ref h1, .int sz, .int fc_, .int fn_])), (h1, .inl (ct.1, 3185, .inr (.inl ro))), (h2, .inr (1, [.long ra, .long rb, .long rc, .long rx, .long ry, .long rz, .int rs]))] ++ wt) → va_S A s.heap H locs → ∀ (ls : Array Slot), lv_has ls 4 [(2, .int fr), (3, .int wh), (0, .ref h0), (1, .int rw)] → W p l e (headSpec w_T_insert rm_T_insert).room s m ([.ref h0, .int rw] : List Value).toArray below meth c H locs 0 0 (MQ below (va_Qv (fun u => u = r0) (fun (u : (Nat → Int64) × Int32) t => match u with | (ro', sz') => va_P D classes ([(h0, .inr (2, [.ref h2, .ref h1, .int sz', .int fc_, .int fn_])), (h1, .inl (ct.1, 3185, .inr (.inl ro'))), (h2, .inr (1, [.long ra, .long rb, .long rc, .long rx, .long ry, .long rz, .int rs]))] ++ wt) t.heap ∧ va_D A ([(h0, .inr (2, [.ref h2, .ref h1, .int sz', .int fc_, .int fn_])), (h1, .inl (ct.1, 3185, .inr (.inl ro'))), (h2, .inr (1, [.long ra, .long rb, .long rc, .long rx, .long ry, .long rz, .int rs]))] ++ wt)) A) ([.ref h0, .int rw] : List Value).toArray s 0 0 A) (F0 m 32 ls []) := by
    intro n
    induction n with
    | zero =>
      intro fr wh ro sz  h
      rw [lp_T_insert_32] at h
      cases h
    | succ n ih =>
      intro fr wh ro sz  h H locs hP hD hS ls hl
      rw [lp_T_insert_32] at h
      refine lv_iload_n hx hb d_T_insert_32 rfl (lv_at hl 1 rfl) ?_
      refine lv_bipush (v := (6 : Int32)) hx hb d_T_insert_33 (by decide) ?_
      refine lv_icmp_ge (tgt := 60) hx hb d_T_insert_35 (by decide) (fun c_2 => ?_) (fun c_2 => ?_)
      · rw [if_pos c_2] at h
        refine lv_aload_n hx hb d_T_insert_60 rfl (lv_at hl 2 rfl) ?_
        refine va_get (D := D) (ci := 2) (v := .ref h1) (C := R_Table) (T := F_Table) (N := 5) hx hb htg i_Table hown hK hP 0 rfl rfl 1 (by decide) (htg _ tm_85) (fun _ h9 => h9) rfl d_T_insert_61 ?_
        refine lv_iload_n hx hb d_T_insert_64 rfl (lv_at hl 0 rfl) ?_
        refine lv_bipush (v := (6 : Int32)) hx hb d_T_insert_65 (by decide) ?_
        refine lv_iadd hx hb d_T_insert_67 ?_
        refine lv_lconst (v := (0 : Int64)) hx hb d_T_insert_68 (by decide) ?_
        by_cases b_3 : inb (fr + (6 : Int32)) 3185 = true
        rotate_left
        · rw [if_neg b_3] at h; cases h
        rw [if_pos b_3] at h
        refine va_last hx hb hK hP hD hS 1 0 rfl rfl (inb_in b_3) d_T_insert_69 (fun H locs hP hD hS => ?_)
        have hP : va_P D classes ([(h0, .inr (2, [.ref h2, .ref h1, .int sz, .int fc_, .int fn_])), (h1, .inl (ct.1, 3185, .inr (.inl (vp_updL ro (fr + (6 : Int32)).toNatClampNeg (0 : Int64))))), (h2, .inr (1, [.long ra, .long rb, .long rc, .long rx, .long ry, .long rz, .int rs]))] ++ wt) H := hP
        have hD : va_D A ([(h0, .inr (2, [.ref h2, .ref h1, .int sz, .int fc_, .int fn_])), (h1, .inl (ct.1, 3185, .inr (.inl (vp_updL ro (fr + (6 : Int32)).toNatClampNeg (0 : Int64))))), (h2, .inr (1, [.long ra, .long rb, .long rc, .long rx, .long ry, .long rz, .int rs]))] ++ wt) := hD
        refine lv_aload_n hx hb d_T_insert_70 rfl (lv_at hl 2 rfl) ?_
        refine lv_dup hx hb d_T_insert_71 rfl ?_
        refine va_get (D := D) (ci := 2) (v := .int sz) (C := R_Table) (T := F_Table) (N := 5) hx hb htg i_Table hown hK hP 0 rfl rfl 2 (by decide) (htg _ tm_86) (fun _ h9 => h9) rfl d_T_insert_72 ?_
        refine lv_iconst (v := (1 : Int32)) hx hb d_T_insert_75 (by decide) ?_
        refine lv_iadd hx hb d_T_insert_76 ?_
        refine va_put (D := D) (ci := 2) (v := .int (sz + (1 : Int32))) (ty := .int) (C := R_Table) (T := F_Table) (N := 5) hx hb htg i_Table t_Table t_Table_ok n_Table hown hK hP hD hS 0 rfl rfl 2 (by decide) (htg _ tm_86) (fun _ h9 => h9) rfl (by decide +kernel) rfl rfl (Nat.le_of_ble_eq_true rfl) d_T_insert_77 (fun H locs hP hD hS => ?_)
        have hP : va_P D classes ([(h0, .inr (2, [.ref h2, .ref h1, .int (sz + (1 : Int32)), .int fc_, .int fn_])), (h1, .inl (ct.1, 3185, .inr (.inl (vp_updL ro (fr + (6 : Int32)).toNatClampNeg (0 : Int64))))), (h2, .inr (1, [.long ra, .long rb, .long rc, .long rx, .long ry, .long rz, .int rs]))] ++ wt) H := hP
        have hD : va_D A ([(h0, .inr (2, [.ref h2, .ref h1, .int (sz + (1 : Int32)), .int fc_, .int fn_])), (h1, .inl (ct.1, 3185, .inr (.inl (vp_updL ro (fr + (6 : Int32)).toNatClampNeg (0 : Int64))))), (h2, .inr (1, [.long ra, .long rb, .long rc, .long rx, .long ry, .long rz, .int rs]))] ++ wt) := hD
        exact W.vret hx hb hr (fun t ht hW => ⟨⟨(vp_updL ro (fr + (6 : Int32)).toNatClampNeg (0 : Int64), sz + (1 : Int32)), rfl, (Option.some.inj h), by rw [ht]; exact hP, hD⟩, hS.F ht⟩) hS.2.2 d_T_insert_80
      · rw [if_neg c_2] at h
        refine lv_aload_n hx hb d_T_insert_38 rfl (lv_at hl 2 rfl) ?_
        refine va_get (D := D) (ci := 2) (v := .ref h1) (C := R_Table) (T := F_Table) (N := 5) hx hb htg i_Table hown hK hP 0 rfl rfl 1 (by decide) (htg _ tm_85) (fun _ h9 => h9) rfl d_T_insert_39 ?_
        refine lv_iload_n hx hb d_T_insert_42 rfl (lv_at hl 0 rfl) ?_
        refine lv_iload_n hx hb d_T_insert_43 rfl (lv_at hl 1 rfl) ?_
        refine lv_iadd hx hb d_T_insert_44 ?_
        refine lv_aload_n hx hb d_T_insert_45 rfl (lv_at hl 2 rfl) ?_
        refine va_get (D := D) (ci := 2) (v := .ref h2) (C := R_Table) (T := F_Table) (N := 5) hx hb htg i_Table hown hK hP 0 rfl rfl 0 (by decide) (htg _ tm_84) (fun _ h9 => h9) rfl d_T_insert_46 ?_
        refine lv_iload_n hx hb d_T_insert_49 rfl (lv_at hl 1 rfl) ?_
        refine vp_callSl (va_Run.run (va_runV (As := [.int wh]) (rest := [.int (fr + wh), .ref h1]) ⟨hx, hb, hml, hown, htg⟩ (c_R_at l D ct ([(h0, .inr (2, [.ref h2, .ref h1, .int sz, .int fc_, .int fn_])), (h1, .inl (ct.1, 3185, .inr (.inl ro))), (h2, .inr (1, [.long ra, .long rb, .long rc, .long rx, .long ry, .long rz, .int rs]))] ++ wt) 2 h2 ra rb rc rx ry rz rs wh rfl  _ rfl) (cwV 1 htg (giV tm_347 tm_348 tm_349 tm_32 g_R_at) rfl rfl rfl (by decide +kernel) ⟨Nat.le_of_ble_eq_true rfl, Nat.le_of_ble_eq_true rfl⟩) (preV hP hKK (va_recv hK hP (ci := 1) (q0 := 2) rfl rfl)) rfl rfl hl.1 rfl (lv_room (Nat.le_of_ble_eq_true rfl)) d_T_insert_50 ⟨Nat.le_of_ble_eq_true rfl, Nat.le_of_ble_eq_true rfl⟩)) (fun r9 hr9 => ?_)
        subst hr9
        by_cases b_4 : inb (fr + wh) 3185 = true
        rotate_left
        · rw [if_neg b_4] at h; cases h
        rw [if_pos b_4] at h
        refine va_last hx hb hK hP hD hS 1 0 rfl rfl (inb_in b_4) d_T_insert_53 (fun H locs hP hD hS => ?_)
        have hP : va_P D classes ([(h0, .inr (2, [.ref h2, .ref h1, .int sz, .int fc_, .int fn_])), (h1, .inl (ct.1, 3185, .inr (.inl (vp_updL ro (fr + wh).toNatClampNeg (f_R_at ra rb rc rx ry rz rs wh))))), (h2, .inr (1, [.long ra, .long rb, .long rc, .long rx, .long ry, .long rz, .int rs]))] ++ wt) H := hP
        have hD : va_D A ([(h0, .inr (2, [.ref h2, .ref h1, .int sz, .int fc_, .int fn_])), (h1, .inl (ct.1, 3185, .inr (.inl (vp_updL ro (fr + wh).toNatClampNeg (f_R_at ra rb rc rx ry rz rs wh))))), (h2, .inr (1, [.long ra, .long rb, .long rc, .long rx, .long ry, .long rz, .int rs]))] ++ wt) := hD
        refine lv_iinc (v := wh + (1 : Int32)) (lv' := [(3, .int (wh + (1 : Int32))), (2, .int fr), (0, .ref h0), (1, .int rw)]) hx hb d_T_insert_54 hl (k := 1) rfl rfl (by decide) rfl (fun ls hl => ?_)
        refine lv_goto (tgt := 32) hx hb d_T_insert_57 (by decide) ?_
        exact ih fr (wh + (1 : Int32)) (vp_updL ro (fr + wh).toNatClampNeg (f_R_at ra rb rc rx ry rz rs wh)) sz h H locs hP hD hS ls (lv_sub hl [1, 0, 2, 3] rfl)
  exact L_32 7 (rw * (7 : Int32)) (0 : Int32) (va_cpy ro ro (rw * (7 : Int32)).toNatClampNeg ((rw * (7 : Int32)) + (7 : Int32)).toNatClampNeg ((sz - rw) * (7 : Int32)).toNatClampNeg) sz h _ _ hP hD hS ls (lv_sub hl [1, 0, 2, 3] rfl)
-- CellBench$MultipleTable countReduced ()V
def f_T_count (sz : Int32) (ro : Nat → Int64) (ra : Int64) (rb : Int64) (rc : Int64) (rx : Int64) (ry : Int64) (rz : Int64) (rs : Int32) : Option ((Nat → Int64) × Int32) :=
    Option.bind (f_T_first sz ro ra rb rc rx ry rz rs) (fun z_26 => (if z_26 < 0 then (some (ro, sz)) else (if z_26 < (455 : Int32) then (if sz ≤ z_26 then (if sz < (455 : Int32) then (Option.bind (f_T_insert sz ro ra rb rc rx ry rz rs z_26) (fun z_12 => (if inb ((z_26 * (7 : Int32)) + (6 : Int32)) 3185 = true then (if inb ((z_26 * (7 : Int32)) + (6 : Int32)) 3185 = true then (some (vp_updL z_12.1 ((z_26 * (7 : Int32)) + (6 : Int32)).toNatClampNeg ((z_12.1 ((z_26 * (7 : Int32)) + (6 : Int32)).toNatClampNeg) + (1 : Int64)), z_12.2)) else none) else none))) else (some (ro, sz))) else (Option.bind (f_T_ordR sz ro ra rb rc rx ry rz rs z_26) (fun z_25 => (if z_25 = 0 then (if inb ((z_26 * (7 : Int32)) + (6 : Int32)) 3185 = true then (if inb ((z_26 * (7 : Int32)) + (6 : Int32)) 3185 = true then (some (vp_updL ro ((z_26 * (7 : Int32)) + (6 : Int32)).toNatClampNeg ((ro ((z_26 * (7 : Int32)) + (6 : Int32)).toNatClampNeg) + (1 : Int64)), sz)) else none) else none) else (if sz < (455 : Int32) then (Option.bind (f_T_insert sz ro ra rb rc rx ry rz rs z_26) (fun z_24 => (if inb ((z_26 * (7 : Int32)) + (6 : Int32)) 3185 = true then (if inb ((z_26 * (7 : Int32)) + (6 : Int32)) 3185 = true then (some (vp_updL z_24.1 ((z_26 * (7 : Int32)) + (6 : Int32)).toNatClampNeg ((z_24.1 ((z_26 * (7 : Int32)) + (6 : Int32)).toNatClampNeg) + (1 : Int64)), z_24.2)) else none) else none))) else (some (ro, sz))))))) else (some (ro, sz)))))
def w_T_count : List Cond := .code y_T_count b_T_count 2 none :: GW
abbrev rm_T_count : Room := { frames := 3, cells := 0, slots := 0, locals := 83 }
theorem g_T_count : GoodIn GW w_T_count := gi tm_334
set_option maxHeartbeats 4000000 in
set_option maxRecDepth 100000 in
theorem c_T_count (l : Launch) (D : va_G) (ct : CT) (A : Nat → Prop) (wt : va_W)  (h0 : Nat) (h2 : Nat) (h1 : Nat) (sz : Int32) (fc_ : Int32) (fn_ : Int32) (ro : Nat → Int64) (ra : Int64) (rb : Int64) (rc : Int64) (rx : Int64) (ry : Int64) (rz : Int64) (rs : Int32)   (r0 : (Nat → Int64) × Int32) (h : f_T_count sz ro ra rb rc rx ry rz rs = some r0) : Met l y_T_count w_T_count rm_T_count (va_Pc [.ref h0] (PreM D ct A ([(h0, .inr (2, [.ref h2, .ref h1, .int sz, .int fc_, .int fn_])), (h1, .inl (ct.1, 3185, .inr (.inl ro))), (h2, .inr (1, [.long ra, .long rb, .long rc, .long rx, .long ry, .long rz, .int rs]))] ++ wt))) (va_Qv (fun u => u = r0) (fun (u : (Nat → Int64) × Int32) t => match u with | (ro', sz') => va_P D classes ([(h0, .inr (2, [.ref h2, .ref h1, .int sz', .int fc_, .int fn_])), (h1, .inl (ct.1, 3185, .inr (.inl ro'))), (h2, .inr (1, [.long ra, .long rb, .long rc, .long rx, .long ry, .long rz, .int rs]))] ++ wt) t.heap ∧ va_D A ([(h0, .inr (2, [.ref h2, .ref h1, .int sz', .int fc_, .int fn_])), (h1, .inl (ct.1, 3185, .inr (.inl ro'))), (h2, .inr (1, [.long ra, .long rb, .long rc, .long rx, .long ry, .long rz, .int rs]))] ++ wt)) A) 0 0 A := by
  refine Met.ofW (cc := b_T_count) (maxL := 2) (ret := none) (by decide) rfl ?_
  intro p e s m args below meth c s₁ B hml hv
  obtain ⟨rfl, hA, hP, hD, hKK⟩ := hv
  have hx := B.exec
  have hb := B.bytes
  have hr := B.returns
  have htg := ht_tl (atoms_spec (ws := w_T_count) B.pre)
  have hown : s.vm.findClass R_Table = some m.cls := findClass_of_methodNamed B.named
  have hlocks := B.notSynchronized
  have hK := hKK.1
  have hN := hKK.2.1
  have hO := hKK.2.2
  have hS : va_S A s.heap s.heap [] := va_S.rf
  have hl := lv_entry ([.ref h0]) (n := 2) (Nat.le_of_ble_eq_true rfl)
  rw [lg_entry_eq]
  generalize (lg_sl ([.ref h0]) ++ List.replicate (2 - (lg_sl ([.ref h0])).length) Slot.unset).toArray = ls at hl ⊢
  have hl : lv_has ls 2 [(0, .ref h0)] := hl
  unfold f_T_count at h
  refine lv_aload_n hx hb d_T_count_0 rfl (lv_at hl 0 rfl) ?_
  rcases e_1 : f_T_first sz ro ra rb rc rx ry rz rs with _ | v_2
  · rw [e_1] at h; cases h
  rw [e_1, Option.bind_some] at h
  try dsimp only at h
  refine vp_callSi (va_Run.run (va_runV (As := []) (rest := []) ⟨hx, hb, hml, hown, htg⟩ (c_T_first l D ct ([(h0, .inr (2, [.ref h2, .ref h1, .int sz, .int fc_, .int fn_])), (h1, .inl (ct.1, 3185, .inr (.inl ro))), (h2, .inr (1, [.long ra, .long rb, .long rc, .long rx, .long ry, .long rz, .int rs]))] ++ wt) 0 1 2 h0 h2 h1 sz fc_ fn_ ro ra rb rc rx ry rz rs rfl rfl rfl  _ e_1) (cwV 0 htg (giV tm_335 tm_337 tm_15 tm_33 g_T_first) rfl rfl rfl (by decide +kernel) ⟨Nat.le_of_ble_eq_true rfl, Nat.le_of_ble_eq_true rfl⟩) (preV hP hKK (va_recv hK hP (ci := 2) (q0 := 0) rfl rfl)) rfl rfl hl.1 rfl (lv_room (Nat.le_of_ble_eq_true rfl)) d_T_count_1 ⟨Nat.le_of_ble_eq_true rfl, Nat.le_of_ble_eq_true rfl⟩)) (fun r9 hr9 => ?_)
  have hr9 := hr9.symm
  subst hr9
  refine lv_istore_n (lv' := [(1, .int v_2), (0, .ref h0)]) hx hb d_T_count_4 rfl hl (by decide) rfl (fun ls hl => ?_)
  refine lv_iload_n hx hb d_T_count_5 rfl (lv_at hl 0 rfl) ?_
  refine lv_if_lt (tgt := 16) hx hb d_T_count_6 (by decide) (fun c_3 => ?_) (fun c_3 => ?_)
  · rw [if_pos c_3] at h
    exact W.vret hx hb hr (fun t ht hW => ⟨⟨(ro, sz), rfl, (Option.some.inj h), by rw [ht]; exact hP, hD⟩, hS.F ht⟩) hS.2.2 d_T_count_16
  · rw [if_neg c_3] at h
    refine lv_iload_n hx hb d_T_count_9 rfl (lv_at hl 0 rfl) ?_
    refine lv_sipush (v := (455 : Int32)) hx hb d_T_count_10 (by decide) ?_
    refine lv_icmp_lt (tgt := 17) hx hb d_T_count_13 (by decide) (fun c_4 => ?_) (fun c_4 => ?_)
    · rw [if_pos c_4] at h
      refine lv_iload_n hx hb d_T_count_17 rfl (lv_at hl 0 rfl) ?_
      refine lv_aload_n hx hb d_T_count_18 rfl (lv_at hl 1 rfl) ?_
      refine va_get (D := D) (ci := 2) (v := .int sz) (C := R_Table) (T := F_Table) (N := 5) hx hb htg i_Table hown hK hP 0 rfl rfl 2 (by decide) (htg _ tm_86) (fun _ h9 => h9) rfl d_T_count_19 ?_
      refine lv_icmp_ge (tgt := 33) hx hb d_T_count_22 (by decide) (fun c_5 => ?_) (fun c_5 => ?_)
      · rw [if_pos c_5] at h
        refine lv_aload_n hx hb d_T_count_33 rfl (lv_at hl 1 rfl) ?_
        refine va_get (D := D) (ci := 2) (v := .int sz) (C := R_Table) (T := F_Table) (N := 5) hx hb htg i_Table hown hK hP 0 rfl rfl 2 (by decide) (htg _ tm_86) (fun _ h9 => h9) rfl d_T_count_34 ?_
        refine lv_sipush (v := (455 : Int32)) hx hb d_T_count_37 (by decide) ?_
        refine lv_icmp_lt (tgt := 44) hx hb d_T_count_40 (by decide) (fun c_6 => ?_) (fun c_6 => ?_)
        · rw [if_pos c_6] at h
          refine lv_aload_n hx hb d_T_count_44 rfl (lv_at hl 1 rfl) ?_
          refine lv_iload_n hx hb d_T_count_45 rfl (lv_at hl 0 rfl) ?_
          rcases e_9 : f_T_insert sz ro ra rb rc rx ry rz rs v_2 with _ | ⟨ro_7, sz_8⟩
          · rw [e_9] at h; cases h
          rw [e_9, Option.bind_some] at h
          try dsimp only at h
          refine va_callv (va_runV (As := [.int v_2]) (rest := []) ⟨hx, hb, hml, hown, htg⟩ (c_T_insert l D ct A ([] ++ wt)  h0 h2 h1 sz fc_ fn_ ro ra rb rc rx ry rz rs v_2  _ e_9) (cwV 1 htg (giV tm_352 tm_354 tm_17 tm_33 g_T_insert) rfl rfl rfl (by decide +kernel) ⟨Nat.le_of_ble_eq_true rfl, Nat.le_of_ble_eq_true rfl⟩) (preVM hA hS hP hD hKK (va_recv hK hP (ci := 2) (q0 := 0) rfl rfl)) rfl rfl hl.1 rfl (lv_room (Nat.le_of_ble_eq_true rfl)) d_T_count_46 ⟨Nat.le_of_ble_eq_true rfl, Nat.le_of_ble_eq_true rfl⟩) hS (fun q _ h9 => h9) (fun q h9 => h9) (fun u9 t9 H locs ht9 hvm9 hw9 hB9 hz9 hk9 hS => ?_)
          rw [hw9] at hB9
          obtain ⟨hP, hD⟩ := hB9
          rw [ht9] at hP
          have hP : va_P D classes ([(h0, .inr (2, [.ref h2, .ref h1, .int sz_8, .int fc_, .int fn_])), (h1, .inl (ct.1, 3185, .inr (.inl ro_7))), (h2, .inr (1, [.long ra, .long rb, .long rc, .long rx, .long ry, .long rz, .int rs]))] ++ wt) H := hP
          have hD : va_D A ([(h0, .inr (2, [.ref h2, .ref h1, .int sz_8, .int fc_, .int fn_])), (h1, .inl (ct.1, 3185, .inr (.inl ro_7))), (h2, .inr (1, [.long ra, .long rb, .long rc, .long rx, .long ry, .long rz, .int rs]))] ++ wt) := hD
          refine lv_aload_n hx hb d_T_count_49 rfl (lv_at hl 1 rfl) ?_
          refine va_get (D := D) (ci := 2) (v := .ref h1) (C := R_Table) (T := F_Table) (N := 5) hx hb htg i_Table hown hK hP 0 rfl rfl 1 (by decide) (htg _ tm_85) (fun _ h9 => h9) rfl d_T_count_50 ?_
          refine lv_iload_n hx hb d_T_count_53 rfl (lv_at hl 0 rfl) ?_
          refine lv_bipush (v := (7 : Int32)) hx hb d_T_count_54 (by decide) ?_
          refine lv_imul hx hb d_T_count_56 ?_
          refine lv_bipush (v := (6 : Int32)) hx hb d_T_count_57 (by decide) ?_
          refine lv_iadd hx hb d_T_count_59 ?_
          refine lv_dup2_11 hx hb d_T_count_60 rfl rfl ?_
          by_cases b_10 : inb ((v_2 * (7 : Int32)) + (6 : Int32)) 3185 = true
          rotate_left
          · rw [if_neg b_10] at h; cases h
          rw [if_pos b_10] at h
          refine va_lald hx hb hK hP 1 0 rfl rfl (inb_in b_10) d_T_count_61 ?_
          refine lv_lconst (v := (1 : Int64)) hx hb d_T_count_62 (by decide) ?_
          refine lv_ladd hx hb d_T_count_63 ?_
          by_cases b_11 : inb ((v_2 * (7 : Int32)) + (6 : Int32)) 3185 = true
          rotate_left
          · rw [if_neg b_11] at h; cases h
          rw [if_pos b_11] at h
          refine va_last hx hb hK hP hD hS 1 0 rfl rfl (inb_in b_11) d_T_count_64 (fun H locs hP hD hS => ?_)
          have hP : va_P D classes ([(h0, .inr (2, [.ref h2, .ref h1, .int sz_8, .int fc_, .int fn_])), (h1, .inl (ct.1, 3185, .inr (.inl (vp_updL ro_7 ((v_2 * (7 : Int32)) + (6 : Int32)).toNatClampNeg ((ro_7 ((v_2 * (7 : Int32)) + (6 : Int32)).toNatClampNeg) + (1 : Int64)))))), (h2, .inr (1, [.long ra, .long rb, .long rc, .long rx, .long ry, .long rz, .int rs]))] ++ wt) H := hP
          have hD : va_D A ([(h0, .inr (2, [.ref h2, .ref h1, .int sz_8, .int fc_, .int fn_])), (h1, .inl (ct.1, 3185, .inr (.inl (vp_updL ro_7 ((v_2 * (7 : Int32)) + (6 : Int32)).toNatClampNeg ((ro_7 ((v_2 * (7 : Int32)) + (6 : Int32)).toNatClampNeg) + (1 : Int64)))))), (h2, .inr (1, [.long ra, .long rb, .long rc, .long rx, .long ry, .long rz, .int rs]))] ++ wt) := hD
          exact W.vret hx hb hr (fun t ht hW => ⟨⟨(vp_updL ro_7 ((v_2 * (7 : Int32)) + (6 : Int32)).toNatClampNeg ((ro_7 ((v_2 * (7 : Int32)) + (6 : Int32)).toNatClampNeg) + (1 : Int64)), sz_8), rfl, (Option.some.inj h), by rw [ht]; exact hP, hD⟩, hS.F ht⟩) hS.2.2 d_T_count_65
        · rw [if_neg c_6] at h
          exact W.vret hx hb hr (fun t ht hW => ⟨⟨(ro, sz), rfl, (Option.some.inj h), by rw [ht]; exact hP, hD⟩, hS.F ht⟩) hS.2.2 d_T_count_43
      · rw [if_neg c_5] at h
        refine lv_aload_n hx hb d_T_count_25 rfl (lv_at hl 1 rfl) ?_
        refine lv_iload_n hx hb d_T_count_26 rfl (lv_at hl 0 rfl) ?_
        rcases e_13 : f_T_ordR sz ro ra rb rc rx ry rz rs v_2 with _ | v_14
        · rw [e_13] at h; cases h
        rw [e_13, Option.bind_some] at h
        try dsimp only at h
        refine vp_callSi (va_Run.run (va_runV (As := [.int v_2]) (rest := []) ⟨hx, hb, hml, hown, htg⟩ (c_T_ordR l D ct ([(h0, .inr (2, [.ref h2, .ref h1, .int sz, .int fc_, .int fn_])), (h1, .inl (ct.1, 3185, .inr (.inl ro))), (h2, .inr (1, [.long ra, .long rb, .long rc, .long rx, .long ry, .long rz, .int rs]))] ++ wt) 0 1 2 h0 h2 h1 sz fc_ fn_ ro ra rb rc rx ry rz rs v_2 rfl rfl rfl  _ e_13) (cwV 1 htg (giV tm_339 tm_341 tm_16 tm_33 g_T_ordR) rfl rfl rfl (by decide +kernel) ⟨Nat.le_of_ble_eq_true rfl, Nat.le_of_ble_eq_true rfl⟩) (preV hP hKK (va_recv hK hP (ci := 2) (q0 := 0) rfl rfl)) rfl rfl hl.1 rfl (lv_room (Nat.le_of_ble_eq_true rfl)) d_T_count_27 ⟨Nat.le_of_ble_eq_true rfl, Nat.le_of_ble_eq_true rfl⟩)) (fun r9 hr9 => ?_)
        have hr9 := hr9.symm
        subst hr9
        refine lv_if_eq (tgt := 49) hx hb d_T_count_30 (by decide) (fun c_15 => ?_) (fun c_15 => ?_)
        · rw [if_pos c_15] at h
          refine lv_aload_n hx hb d_T_count_49 rfl (lv_at hl 1 rfl) ?_
          refine va_get (D := D) (ci := 2) (v := .ref h1) (C := R_Table) (T := F_Table) (N := 5) hx hb htg i_Table hown hK hP 0 rfl rfl 1 (by decide) (htg _ tm_85) (fun _ h9 => h9) rfl d_T_count_50 ?_
          refine lv_iload_n hx hb d_T_count_53 rfl (lv_at hl 0 rfl) ?_
          refine lv_bipush (v := (7 : Int32)) hx hb d_T_count_54 (by decide) ?_
          refine lv_imul hx hb d_T_count_56 ?_
          refine lv_bipush (v := (6 : Int32)) hx hb d_T_count_57 (by decide) ?_
          refine lv_iadd hx hb d_T_count_59 ?_
          refine lv_dup2_11 hx hb d_T_count_60 rfl rfl ?_
          by_cases b_16 : inb ((v_2 * (7 : Int32)) + (6 : Int32)) 3185 = true
          rotate_left
          · rw [if_neg b_16] at h; cases h
          rw [if_pos b_16] at h
          refine va_lald hx hb hK hP 1 0 rfl rfl (inb_in b_16) d_T_count_61 ?_
          refine lv_lconst (v := (1 : Int64)) hx hb d_T_count_62 (by decide) ?_
          refine lv_ladd hx hb d_T_count_63 ?_
          by_cases b_17 : inb ((v_2 * (7 : Int32)) + (6 : Int32)) 3185 = true
          rotate_left
          · rw [if_neg b_17] at h; cases h
          rw [if_pos b_17] at h
          refine va_last hx hb hK hP hD hS 1 0 rfl rfl (inb_in b_17) d_T_count_64 (fun H locs hP hD hS => ?_)
          have hP : va_P D classes ([(h0, .inr (2, [.ref h2, .ref h1, .int sz, .int fc_, .int fn_])), (h1, .inl (ct.1, 3185, .inr (.inl (vp_updL ro ((v_2 * (7 : Int32)) + (6 : Int32)).toNatClampNeg ((ro ((v_2 * (7 : Int32)) + (6 : Int32)).toNatClampNeg) + (1 : Int64)))))), (h2, .inr (1, [.long ra, .long rb, .long rc, .long rx, .long ry, .long rz, .int rs]))] ++ wt) H := hP
          have hD : va_D A ([(h0, .inr (2, [.ref h2, .ref h1, .int sz, .int fc_, .int fn_])), (h1, .inl (ct.1, 3185, .inr (.inl (vp_updL ro ((v_2 * (7 : Int32)) + (6 : Int32)).toNatClampNeg ((ro ((v_2 * (7 : Int32)) + (6 : Int32)).toNatClampNeg) + (1 : Int64)))))), (h2, .inr (1, [.long ra, .long rb, .long rc, .long rx, .long ry, .long rz, .int rs]))] ++ wt) := hD
          exact W.vret hx hb hr (fun t ht hW => ⟨⟨(vp_updL ro ((v_2 * (7 : Int32)) + (6 : Int32)).toNatClampNeg ((ro ((v_2 * (7 : Int32)) + (6 : Int32)).toNatClampNeg) + (1 : Int64)), sz), rfl, (Option.some.inj h), by rw [ht]; exact hP, hD⟩, hS.F ht⟩) hS.2.2 d_T_count_65
        · rw [if_neg c_15] at h
          refine lv_aload_n hx hb d_T_count_33 rfl (lv_at hl 1 rfl) ?_
          refine va_get (D := D) (ci := 2) (v := .int sz) (C := R_Table) (T := F_Table) (N := 5) hx hb htg i_Table hown hK hP 0 rfl rfl 2 (by decide) (htg _ tm_86) (fun _ h9 => h9) rfl d_T_count_34 ?_
          refine lv_sipush (v := (455 : Int32)) hx hb d_T_count_37 (by decide) ?_
          refine lv_icmp_lt (tgt := 44) hx hb d_T_count_40 (by decide) (fun c_18 => ?_) (fun c_18 => ?_)
          · rw [if_pos c_18] at h
            refine lv_aload_n hx hb d_T_count_44 rfl (lv_at hl 1 rfl) ?_
            refine lv_iload_n hx hb d_T_count_45 rfl (lv_at hl 0 rfl) ?_
            rcases e_21 : f_T_insert sz ro ra rb rc rx ry rz rs v_2 with _ | ⟨ro_19, sz_20⟩
            · rw [e_21] at h; cases h
            rw [e_21, Option.bind_some] at h
            try dsimp only at h
            refine va_callv (va_runV (As := [.int v_2]) (rest := []) ⟨hx, hb, hml, hown, htg⟩ (c_T_insert l D ct A ([] ++ wt)  h0 h2 h1 sz fc_ fn_ ro ra rb rc rx ry rz rs v_2  _ e_21) (cwV 1 htg (giV tm_352 tm_354 tm_17 tm_33 g_T_insert) rfl rfl rfl (by decide +kernel) ⟨Nat.le_of_ble_eq_true rfl, Nat.le_of_ble_eq_true rfl⟩) (preVM hA hS hP hD hKK (va_recv hK hP (ci := 2) (q0 := 0) rfl rfl)) rfl rfl hl.1 rfl (lv_room (Nat.le_of_ble_eq_true rfl)) d_T_count_46 ⟨Nat.le_of_ble_eq_true rfl, Nat.le_of_ble_eq_true rfl⟩) hS (fun q _ h9 => h9) (fun q h9 => h9) (fun u9 t9 H locs ht9 hvm9 hw9 hB9 hz9 hk9 hS => ?_)
            rw [hw9] at hB9
            obtain ⟨hP, hD⟩ := hB9
            rw [ht9] at hP
            have hP : va_P D classes ([(h0, .inr (2, [.ref h2, .ref h1, .int sz_20, .int fc_, .int fn_])), (h1, .inl (ct.1, 3185, .inr (.inl ro_19))), (h2, .inr (1, [.long ra, .long rb, .long rc, .long rx, .long ry, .long rz, .int rs]))] ++ wt) H := hP
            have hD : va_D A ([(h0, .inr (2, [.ref h2, .ref h1, .int sz_20, .int fc_, .int fn_])), (h1, .inl (ct.1, 3185, .inr (.inl ro_19))), (h2, .inr (1, [.long ra, .long rb, .long rc, .long rx, .long ry, .long rz, .int rs]))] ++ wt) := hD
            refine lv_aload_n hx hb d_T_count_49 rfl (lv_at hl 1 rfl) ?_
            refine va_get (D := D) (ci := 2) (v := .ref h1) (C := R_Table) (T := F_Table) (N := 5) hx hb htg i_Table hown hK hP 0 rfl rfl 1 (by decide) (htg _ tm_85) (fun _ h9 => h9) rfl d_T_count_50 ?_
            refine lv_iload_n hx hb d_T_count_53 rfl (lv_at hl 0 rfl) ?_
            refine lv_bipush (v := (7 : Int32)) hx hb d_T_count_54 (by decide) ?_
            refine lv_imul hx hb d_T_count_56 ?_
            refine lv_bipush (v := (6 : Int32)) hx hb d_T_count_57 (by decide) ?_
            refine lv_iadd hx hb d_T_count_59 ?_
            refine lv_dup2_11 hx hb d_T_count_60 rfl rfl ?_
            by_cases b_22 : inb ((v_2 * (7 : Int32)) + (6 : Int32)) 3185 = true
            rotate_left
            · rw [if_neg b_22] at h; cases h
            rw [if_pos b_22] at h
            refine va_lald hx hb hK hP 1 0 rfl rfl (inb_in b_22) d_T_count_61 ?_
            refine lv_lconst (v := (1 : Int64)) hx hb d_T_count_62 (by decide) ?_
            refine lv_ladd hx hb d_T_count_63 ?_
            by_cases b_23 : inb ((v_2 * (7 : Int32)) + (6 : Int32)) 3185 = true
            rotate_left
            · rw [if_neg b_23] at h; cases h
            rw [if_pos b_23] at h
            refine va_last hx hb hK hP hD hS 1 0 rfl rfl (inb_in b_23) d_T_count_64 (fun H locs hP hD hS => ?_)
            have hP : va_P D classes ([(h0, .inr (2, [.ref h2, .ref h1, .int sz_20, .int fc_, .int fn_])), (h1, .inl (ct.1, 3185, .inr (.inl (vp_updL ro_19 ((v_2 * (7 : Int32)) + (6 : Int32)).toNatClampNeg ((ro_19 ((v_2 * (7 : Int32)) + (6 : Int32)).toNatClampNeg) + (1 : Int64)))))), (h2, .inr (1, [.long ra, .long rb, .long rc, .long rx, .long ry, .long rz, .int rs]))] ++ wt) H := hP
            have hD : va_D A ([(h0, .inr (2, [.ref h2, .ref h1, .int sz_20, .int fc_, .int fn_])), (h1, .inl (ct.1, 3185, .inr (.inl (vp_updL ro_19 ((v_2 * (7 : Int32)) + (6 : Int32)).toNatClampNeg ((ro_19 ((v_2 * (7 : Int32)) + (6 : Int32)).toNatClampNeg) + (1 : Int64)))))), (h2, .inr (1, [.long ra, .long rb, .long rc, .long rx, .long ry, .long rz, .int rs]))] ++ wt) := hD
            exact W.vret hx hb hr (fun t ht hW => ⟨⟨(vp_updL ro_19 ((v_2 * (7 : Int32)) + (6 : Int32)).toNatClampNeg ((ro_19 ((v_2 * (7 : Int32)) + (6 : Int32)).toNatClampNeg) + (1 : Int64)), sz_20), rfl, (Option.some.inj h), by rw [ht]; exact hP, hD⟩, hS.F ht⟩) hS.2.2 d_T_count_65
          · rw [if_neg c_18] at h
            exact W.vret hx hb hr (fun t ht hW => ⟨⟨(ro, sz), rfl, (Option.some.inj h), by rw [ht]; exact hP, hD⟩, hS.F ht⟩) hS.2.2 d_T_count_43
    · rw [if_neg c_4] at h
      exact W.vret hx hb hr (fun t ht hW => ⟨⟨(ro, sz), rfl, (Option.some.inj h), by rw [ht]; exact hP, hD⟩, hS.F ht⟩) hS.2.2 d_T_count_16
-- CellBench$MultipleTable reduceEdges (LCellBench$Products;IIIIII)V
def f_T_edges (ra : Int64) (rb : Int64) (rc : Int64) (rx : Int64) (ry : Int64) (rz : Int64) (rs : Int32) (fa : Int64) (fb : Int64) (fc : Int64) (fd : Int64) (fe : Int64) (ff : Int64) (ep : Int32) (eq : Int32) (er : Int32) (es : Int32) (et : Int32) (eu : Int32) : Option (Int64 × Int64 × Int64 × Int64 × Int64 × Int64 × Int32) :=
    bnd (f_R_setSq ra rb rc rx ry rz rs (f_P_prod fa fb fc fd fe ff (ep.toInt64) (0 : Int64) (0 : Int64) (ep.toInt64) (0 : Int64) (0 : Int64)) (f_P_prod fa fb fc fd fe ff (eq.toInt64) (er.toInt64) (0 : Int64) (eq.toInt64) (er.toInt64) (0 : Int64)) (f_P_prod fa fb fc fd fe ff (es.toInt64) (et.toInt64) (eu.toInt64) (es.toInt64) (et.toInt64) (eu.toInt64))) (fun z_27 => (bnd (f_R_setMx z_27.1 z_27.2.1 z_27.2.2.1 z_27.2.2.2.1 z_27.2.2.2.2.1 z_27.2.2.2.2.2.1 z_27.2.2.2.2.2.2 (f_P_prod fa fb fc fd fe ff (eq.toInt64) (er.toInt64) (0 : Int64) (es.toInt64) (et.toInt64) (eu.toInt64)) (f_P_prod fa fb fc fd fe ff (ep.toInt64) (0 : Int64) (0 : Int64) (es.toInt64) (et.toInt64) (eu.toInt64)) (f_P_prod fa fb fc fd fe ff (ep.toInt64) (0 : Int64) (0 : Int64) (eq.toInt64) (er.toInt64) (0 : Int64))) (fun z_26 => (Option.bind (f_R_run z_26.1 z_26.2.1 z_26.2.2.1 z_26.2.2.2.1 z_26.2.2.2.2.1 z_26.2.2.2.2.2.1 z_26.2.2.2.2.2.2) (fun z_25 => (some (z_25.1, z_25.2.1, z_25.2.2.1, z_25.2.2.2.1, z_25.2.2.2.2.1, z_25.2.2.2.2.2.1, z_25.2.2.2.2.2.2)))))))
def w_T_edges : List Cond := .code y_T_edges b_T_edges 8 none :: GW
abbrev rm_T_edges : Room := { frames := 3, cells := 0, slots := 0, locals := 66 }
theorem g_T_edges : GoodIn GW w_T_edges := gi tm_326
set_option maxHeartbeats 4000000 in
set_option maxRecDepth 100000 in
theorem c_T_edges (l : Launch) (D : va_G) (ct : CT) (A : Nat → Prop) (wt : va_W) (k2 : Nat) (h0 : Nat) (h2 : Nat) (h1 : Nat) (sz : Int32) (fc_ : Int32) (fn_ : Int32) (ra : Int64) (rb : Int64) (rc : Int64) (rx : Int64) (ry : Int64) (rz : Int64) (rs : Int32) (h3 : Nat) (fa : Int64) (fb : Int64) (fc : Int64) (fd : Int64) (fe : Int64) (ff : Int64) (ep : Int32) (eq : Int32) (er : Int32) (es : Int32) (et : Int32) (eu : Int32) (hk2 : wt[k2]? = some (h3, .inr (0, [.long fa, .long fb, .long fc, .long fd, .long fe, .long ff])))  (r0 : Int64 × Int64 × Int64 × Int64 × Int64 × Int64 × Int32) (h : f_T_edges ra rb rc rx ry rz rs fa fb fc fd fe ff ep eq er es et eu = some r0) : Met l y_T_edges w_T_edges rm_T_edges (va_Pc [.ref h0, .ref h3, .int ep, .int eq, .int er, .int es, .int et, .int eu] (PreM D ct A ([(h0, .inr (2, [.ref h2, .ref h1, .int sz, .int fc_, .int fn_])), (h2, .inr (1, [.long ra, .long rb, .long rc, .long rx, .long ry, .long rz, .int rs]))] ++ wt))) (va_Qv (fun u => u = r0) (fun (u : Int64 × Int64 × Int64 × Int64 × Int64 × Int64 × Int32) t => match u with | (ra', rb', rc', rx', ry', rz', rs') => va_P D classes ([(h0, .inr (2, [.ref h2, .ref h1, .int sz, .int fc_, .int fn_])), (h2, .inr (1, [.long ra', .long rb', .long rc', .long rx', .long ry', .long rz', .int rs']))] ++ wt) t.heap ∧ va_D A ([(h0, .inr (2, [.ref h2, .ref h1, .int sz, .int fc_, .int fn_])), (h2, .inr (1, [.long ra', .long rb', .long rc', .long rx', .long ry', .long rz', .int rs']))] ++ wt)) A) 0 0 A := by
  refine Met.ofW (cc := b_T_edges) (maxL := 8) (ret := none) (by decide) rfl ?_
  intro p e s m args below meth c s₁ B hml hv
  obtain ⟨rfl, hA, hP, hD, hKK⟩ := hv
  have hx := B.exec
  have hb := B.bytes
  have hr := B.returns
  have htg := ht_tl (atoms_spec (ws := w_T_edges) B.pre)
  have hown : s.vm.findClass R_Table = some m.cls := findClass_of_methodNamed B.named
  have hlocks := B.notSynchronized
  have hK := hKK.1
  have hN := hKK.2.1
  have hO := hKK.2.2
  have hS : va_S A s.heap s.heap [] := va_S.rf
  have hl := lv_entry ([.ref h0, .ref h3, .int ep, .int eq, .int er, .int es, .int et, .int eu]) (n := 8) (Nat.le_of_ble_eq_true rfl)
  rw [lg_entry_eq]
  generalize (lg_sl ([.ref h0, .ref h3, .int ep, .int eq, .int er, .int es, .int et, .int eu]) ++ List.replicate (8 - (lg_sl ([.ref h0, .ref h3, .int ep, .int eq, .int er, .int es, .int et, .int eu])).length) Slot.unset).toArray = ls at hl ⊢
  have hl : lv_has ls 8 [(0, .ref h0), (1, .ref h3), (2, .int ep), (3, .int eq), (4, .int er), (5, .int es), (6, .int et), (7, .int eu)] := hl
  unfold f_T_edges at h
  refine lv_aload_n hx hb d_T_edges_0 rfl (lv_at hl 0 rfl) ?_
  refine va_get (D := D) (ci := 2) (v := .ref h2) (C := R_Table) (T := F_Table) (N := 5) hx hb htg i_Table hown hK hP 0 rfl rfl 0 (by decide) (htg _ tm_84) (fun _ h9 => h9) rfl d_T_edges_1 ?_
  refine lv_aload_n hx hb d_T_edges_4 rfl (lv_at hl 1 rfl) ?_
  refine lv_iload_n hx hb d_T_edges_5 rfl (lv_at hl 2 rfl) ?_
  refine lv_i2l hx hb d_T_edges_6 rfl ?_
  refine lv_lconst (v := (0 : Int64)) hx hb d_T_edges_7 (by decide) ?_
  refine lv_lconst (v := (0 : Int64)) hx hb d_T_edges_8 (by decide) ?_
  refine lv_iload_n hx hb d_T_edges_9 rfl (lv_at hl 2 rfl) ?_
  refine lv_i2l hx hb d_T_edges_10 rfl ?_
  refine lv_lconst (v := (0 : Int64)) hx hb d_T_edges_11 (by decide) ?_
  refine lv_lconst (v := (0 : Int64)) hx hb d_T_edges_12 (by decide) ?_
  refine vp_callSl (va_Run.run (va_runV (As := [.long (ep.toInt64), .long (0 : Int64), .long (0 : Int64), .long (ep.toInt64), .long (0 : Int64), .long (0 : Int64)]) (rest := [.ref h2]) ⟨hx, hb, hml, hown, htg⟩ (c_P_prod l D ct ([(h0, .inr (2, [.ref h2, .ref h1, .int sz, .int fc_, .int fn_])), (h2, .inr (1, [.long ra, .long rb, .long rc, .long rx, .long ry, .long rz, .int rs]))] ++ wt) (k2 + 2) h3 fa fb fc fd fe ff (ep.toInt64) (0 : Int64) (0 : Int64) (ep.toInt64) (0 : Int64) (0 : Int64) hk2  _ rfl) (cwV 6 htg (giV tm_327 tm_234 tm_235 tm_35 g_P_prod) rfl rfl rfl (by decide +kernel) ⟨Nat.le_of_ble_eq_true rfl, Nat.le_of_ble_eq_true rfl⟩) (preV hP hKK (va_recv hK hP (ci := 0) (q0 := (k2 + 2)) rfl hk2)) rfl rfl hl.1 rfl (lv_room (Nat.le_of_ble_eq_true rfl)) d_T_edges_13 ⟨Nat.le_of_ble_eq_true rfl, Nat.le_of_ble_eq_true rfl⟩)) (fun r9 hr9 => ?_)
  subst hr9
  refine lv_aload_n hx hb d_T_edges_16 rfl (lv_at hl 1 rfl) ?_
  refine lv_iload_n hx hb d_T_edges_17 rfl (lv_at hl 3 rfl) ?_
  refine lv_i2l hx hb d_T_edges_18 rfl ?_
  refine lv_iload hx hb d_T_edges_19 (lv_at hl 4 rfl) ?_
  refine lv_i2l hx hb d_T_edges_21 rfl ?_
  refine lv_lconst (v := (0 : Int64)) hx hb d_T_edges_22 (by decide) ?_
  refine lv_iload_n hx hb d_T_edges_23 rfl (lv_at hl 3 rfl) ?_
  refine lv_i2l hx hb d_T_edges_24 rfl ?_
  refine lv_iload hx hb d_T_edges_25 (lv_at hl 4 rfl) ?_
  refine lv_i2l hx hb d_T_edges_27 rfl ?_
  refine lv_lconst (v := (0 : Int64)) hx hb d_T_edges_28 (by decide) ?_
  refine vp_callSl (va_Run.run (va_runV (As := [.long (eq.toInt64), .long (er.toInt64), .long (0 : Int64), .long (eq.toInt64), .long (er.toInt64), .long (0 : Int64)]) (rest := [.long (f_P_prod fa fb fc fd fe ff (ep.toInt64) (0 : Int64) (0 : Int64) (ep.toInt64) (0 : Int64) (0 : Int64)), .ref h2]) ⟨hx, hb, hml, hown, htg⟩ (c_P_prod l D ct ([(h0, .inr (2, [.ref h2, .ref h1, .int sz, .int fc_, .int fn_])), (h2, .inr (1, [.long ra, .long rb, .long rc, .long rx, .long ry, .long rz, .int rs]))] ++ wt) (k2 + 2) h3 fa fb fc fd fe ff (eq.toInt64) (er.toInt64) (0 : Int64) (eq.toInt64) (er.toInt64) (0 : Int64) hk2  _ rfl) (cwV 6 htg (giV tm_327 tm_234 tm_235 tm_35 g_P_prod) rfl rfl rfl (by decide +kernel) ⟨Nat.le_of_ble_eq_true rfl, Nat.le_of_ble_eq_true rfl⟩) (preV hP hKK (va_recv hK hP (ci := 0) (q0 := (k2 + 2)) rfl hk2)) rfl rfl hl.1 rfl (lv_room (Nat.le_of_ble_eq_true rfl)) d_T_edges_29 ⟨Nat.le_of_ble_eq_true rfl, Nat.le_of_ble_eq_true rfl⟩)) (fun r9 hr9 => ?_)
  subst hr9
  refine lv_aload_n hx hb d_T_edges_32 rfl (lv_at hl 1 rfl) ?_
  refine lv_iload hx hb d_T_edges_33 (lv_at hl 5 rfl) ?_
  refine lv_i2l hx hb d_T_edges_35 rfl ?_
  refine lv_iload hx hb d_T_edges_36 (lv_at hl 6 rfl) ?_
  refine lv_i2l hx hb d_T_edges_38 rfl ?_
  refine lv_iload hx hb d_T_edges_39 (lv_at hl 7 rfl) ?_
  refine lv_i2l hx hb d_T_edges_41 rfl ?_
  refine lv_iload hx hb d_T_edges_42 (lv_at hl 5 rfl) ?_
  refine lv_i2l hx hb d_T_edges_44 rfl ?_
  refine lv_iload hx hb d_T_edges_45 (lv_at hl 6 rfl) ?_
  refine lv_i2l hx hb d_T_edges_47 rfl ?_
  refine lv_iload hx hb d_T_edges_48 (lv_at hl 7 rfl) ?_
  refine lv_i2l hx hb d_T_edges_50 rfl ?_
  refine vp_callSl (va_Run.run (va_runV (As := [.long (es.toInt64), .long (et.toInt64), .long (eu.toInt64), .long (es.toInt64), .long (et.toInt64), .long (eu.toInt64)]) (rest := [.long (f_P_prod fa fb fc fd fe ff (eq.toInt64) (er.toInt64) (0 : Int64) (eq.toInt64) (er.toInt64) (0 : Int64)), .long (f_P_prod fa fb fc fd fe ff (ep.toInt64) (0 : Int64) (0 : Int64) (ep.toInt64) (0 : Int64) (0 : Int64)), .ref h2]) ⟨hx, hb, hml, hown, htg⟩ (c_P_prod l D ct ([(h0, .inr (2, [.ref h2, .ref h1, .int sz, .int fc_, .int fn_])), (h2, .inr (1, [.long ra, .long rb, .long rc, .long rx, .long ry, .long rz, .int rs]))] ++ wt) (k2 + 2) h3 fa fb fc fd fe ff (es.toInt64) (et.toInt64) (eu.toInt64) (es.toInt64) (et.toInt64) (eu.toInt64) hk2  _ rfl) (cwV 6 htg (giV tm_327 tm_234 tm_235 tm_35 g_P_prod) rfl rfl rfl (by decide +kernel) ⟨Nat.le_of_ble_eq_true rfl, Nat.le_of_ble_eq_true rfl⟩) (preV hP hKK (va_recv hK hP (ci := 0) (q0 := (k2 + 2)) rfl hk2)) rfl rfl hl.1 rfl (lv_room (Nat.le_of_ble_eq_true rfl)) d_T_edges_51 ⟨Nat.le_of_ble_eq_true rfl, Nat.le_of_ble_eq_true rfl⟩)) (fun r9 hr9 => ?_)
  subst hr9
  have hP := va_P.part (cx := [(h2, .inr (1, [.long ra, .long rb, .long rc, .long rx, .long ry, .long rz, .int rs])), (h0, .inr (2, [.ref h2, .ref h1, .int sz, .int fc_, .int fn_]))]) hP [1, 0] rfl
  have hD := va_D.part (cx := [(h2, .inr (1, [.long ra, .long rb, .long rc, .long rx, .long ry, .long rz, .int rs])), (h0, .inr (2, [.ref h2, .ref h1, .int sz, .int fc_, .int fn_]))]) hD [1, 0] (by decide) rfl
  obtain ⟨⟨ra_1, rb_2, rc_3, rx_4, ry_5, rz_6, rs_7⟩, e_8⟩ : ∃ v, f_R_setSq ra rb rc rx ry rz rs (f_P_prod fa fb fc fd fe ff (ep.toInt64) (0 : Int64) (0 : Int64) (ep.toInt64) (0 : Int64) (0 : Int64)) (f_P_prod fa fb fc fd fe ff (eq.toInt64) (er.toInt64) (0 : Int64) (eq.toInt64) (er.toInt64) (0 : Int64)) (f_P_prod fa fb fc fd fe ff (es.toInt64) (et.toInt64) (eu.toInt64) (es.toInt64) (et.toInt64) (eu.toInt64)) = v := ⟨_, rfl⟩
  rw [e_8, bnd_eq] at h
  try dsimp only at h
  refine va_callv (va_runV (As := [.long (f_P_prod fa fb fc fd fe ff (ep.toInt64) (0 : Int64) (0 : Int64) (ep.toInt64) (0 : Int64) (0 : Int64)), .long (f_P_prod fa fb fc fd fe ff (eq.toInt64) (er.toInt64) (0 : Int64) (eq.toInt64) (er.toInt64) (0 : Int64)), .long (f_P_prod fa fb fc fd fe ff (es.toInt64) (et.toInt64) (eu.toInt64) (es.toInt64) (et.toInt64) (eu.toInt64))]) (rest := []) ⟨hx, hb, hml, hown, htg⟩ (c_R_setSq l D ct A ([(h0, .inr (2, [.ref h2, .ref h1, .int sz, .int fc_, .int fn_]))] ++ wt)  h2 ra rb rc rx ry rz rs (f_P_prod fa fb fc fd fe ff (ep.toInt64) (0 : Int64) (0 : Int64) (ep.toInt64) (0 : Int64) (0 : Int64)) (f_P_prod fa fb fc fd fe ff (eq.toInt64) (er.toInt64) (0 : Int64) (eq.toInt64) (er.toInt64) (0 : Int64)) (f_P_prod fa fb fc fd fe ff (es.toInt64) (et.toInt64) (eu.toInt64) (es.toInt64) (et.toInt64) (eu.toInt64))  _ e_8) (cwV 3 htg (giV tm_328 tm_171 tm_172 tm_32 g_R_setSq) rfl rfl rfl (by decide +kernel) ⟨Nat.le_of_ble_eq_true rfl, Nat.le_of_ble_eq_true rfl⟩) (preVM hA hS hP hD hKK (va_recv hK hP (ci := 1) (q0 := 0) rfl rfl)) rfl rfl hl.1 rfl (lv_room (Nat.le_of_ble_eq_true rfl)) d_T_edges_54 ⟨Nat.le_of_ble_eq_true rfl, Nat.le_of_ble_eq_true rfl⟩) hS (fun q _ h9 => h9) (fun q h9 => h9) (fun u9 t9 H locs ht9 hvm9 hw9 hB9 hz9 hk9 hS => ?_)
  rw [hw9] at hB9
  obtain ⟨hP, hD⟩ := hB9
  rw [ht9] at hP
  have hP : va_P D classes ([(h2, .inr (1, [.long ra_1, .long rb_2, .long rc_3, .long rx_4, .long ry_5, .long rz_6, .int rs_7])), (h0, .inr (2, [.ref h2, .ref h1, .int sz, .int fc_, .int fn_]))] ++ wt) H := hP
  have hD : va_D A ([(h2, .inr (1, [.long ra_1, .long rb_2, .long rc_3, .long rx_4, .long ry_5, .long rz_6, .int rs_7])), (h0, .inr (2, [.ref h2, .ref h1, .int sz, .int fc_, .int fn_]))] ++ wt) := hD
  refine lv_aload_n hx hb d_T_edges_57 rfl (lv_at hl 0 rfl) ?_
  refine va_get (D := D) (ci := 2) (v := .ref h2) (C := R_Table) (T := F_Table) (N := 5) hx hb htg i_Table hown hK hP 1 rfl rfl 0 (by decide) (htg _ tm_84) (fun _ h9 => h9) rfl d_T_edges_58 ?_
  refine lv_aload_n hx hb d_T_edges_61 rfl (lv_at hl 1 rfl) ?_
  refine lv_iload_n hx hb d_T_edges_62 rfl (lv_at hl 3 rfl) ?_
  refine lv_i2l hx hb d_T_edges_63 rfl ?_
  refine lv_iload hx hb d_T_edges_64 (lv_at hl 4 rfl) ?_
  refine lv_i2l hx hb d_T_edges_66 rfl ?_
  refine lv_lconst (v := (0 : Int64)) hx hb d_T_edges_67 (by decide) ?_
  refine lv_iload hx hb d_T_edges_68 (lv_at hl 5 rfl) ?_
  refine lv_i2l hx hb d_T_edges_70 rfl ?_
  refine lv_iload hx hb d_T_edges_71 (lv_at hl 6 rfl) ?_
  refine lv_i2l hx hb d_T_edges_73 rfl ?_
  refine lv_iload hx hb d_T_edges_74 (lv_at hl 7 rfl) ?_
  refine lv_i2l hx hb d_T_edges_76 rfl ?_
  refine vp_callSl (va_Run.run (va_runV (As := [.long (eq.toInt64), .long (er.toInt64), .long (0 : Int64), .long (es.toInt64), .long (et.toInt64), .long (eu.toInt64)]) (rest := [.ref h2]) ⟨hx, hb, hml, hown, htg⟩ (c_P_prod l D ct ([(h2, .inr (1, [.long ra_1, .long rb_2, .long rc_3, .long rx_4, .long ry_5, .long rz_6, .int rs_7])), (h0, .inr (2, [.ref h2, .ref h1, .int sz, .int fc_, .int fn_]))] ++ wt) (k2 + 2) h3 fa fb fc fd fe ff (eq.toInt64) (er.toInt64) (0 : Int64) (es.toInt64) (et.toInt64) (eu.toInt64) hk2  _ rfl) (cwV 6 htg (giV tm_327 tm_234 tm_235 tm_35 g_P_prod) rfl rfl rfl (by decide +kernel) ⟨Nat.le_of_ble_eq_true rfl, Nat.le_of_ble_eq_true rfl⟩) (preV hP hKK (va_recv hK hP (ci := 0) (q0 := (k2 + 2)) rfl hk2)) rfl rfl hl.1 rfl (lv_room (Nat.le_of_ble_eq_true rfl)) d_T_edges_77 ⟨Nat.le_of_ble_eq_true rfl, Nat.le_of_ble_eq_true rfl⟩)) (fun r9 hr9 => ?_)
  subst hr9
  refine lv_aload_n hx hb d_T_edges_80 rfl (lv_at hl 1 rfl) ?_
  refine lv_iload_n hx hb d_T_edges_81 rfl (lv_at hl 2 rfl) ?_
  refine lv_i2l hx hb d_T_edges_82 rfl ?_
  refine lv_lconst (v := (0 : Int64)) hx hb d_T_edges_83 (by decide) ?_
  refine lv_lconst (v := (0 : Int64)) hx hb d_T_edges_84 (by decide) ?_
  refine lv_iload hx hb d_T_edges_85 (lv_at hl 5 rfl) ?_
  refine lv_i2l hx hb d_T_edges_87 rfl ?_
  refine lv_iload hx hb d_T_edges_88 (lv_at hl 6 rfl) ?_
  refine lv_i2l hx hb d_T_edges_90 rfl ?_
  refine lv_iload hx hb d_T_edges_91 (lv_at hl 7 rfl) ?_
  refine lv_i2l hx hb d_T_edges_93 rfl ?_
  refine vp_callSl (va_Run.run (va_runV (As := [.long (ep.toInt64), .long (0 : Int64), .long (0 : Int64), .long (es.toInt64), .long (et.toInt64), .long (eu.toInt64)]) (rest := [.long (f_P_prod fa fb fc fd fe ff (eq.toInt64) (er.toInt64) (0 : Int64) (es.toInt64) (et.toInt64) (eu.toInt64)), .ref h2]) ⟨hx, hb, hml, hown, htg⟩ (c_P_prod l D ct ([(h2, .inr (1, [.long ra_1, .long rb_2, .long rc_3, .long rx_4, .long ry_5, .long rz_6, .int rs_7])), (h0, .inr (2, [.ref h2, .ref h1, .int sz, .int fc_, .int fn_]))] ++ wt) (k2 + 2) h3 fa fb fc fd fe ff (ep.toInt64) (0 : Int64) (0 : Int64) (es.toInt64) (et.toInt64) (eu.toInt64) hk2  _ rfl) (cwV 6 htg (giV tm_327 tm_234 tm_235 tm_35 g_P_prod) rfl rfl rfl (by decide +kernel) ⟨Nat.le_of_ble_eq_true rfl, Nat.le_of_ble_eq_true rfl⟩) (preV hP hKK (va_recv hK hP (ci := 0) (q0 := (k2 + 2)) rfl hk2)) rfl rfl hl.1 rfl (lv_room (Nat.le_of_ble_eq_true rfl)) d_T_edges_94 ⟨Nat.le_of_ble_eq_true rfl, Nat.le_of_ble_eq_true rfl⟩)) (fun r9 hr9 => ?_)
  subst hr9
  refine lv_aload_n hx hb d_T_edges_97 rfl (lv_at hl 1 rfl) ?_
  refine lv_iload_n hx hb d_T_edges_98 rfl (lv_at hl 2 rfl) ?_
  refine lv_i2l hx hb d_T_edges_99 rfl ?_
  refine lv_lconst (v := (0 : Int64)) hx hb d_T_edges_100 (by decide) ?_
  refine lv_lconst (v := (0 : Int64)) hx hb d_T_edges_101 (by decide) ?_
  refine lv_iload_n hx hb d_T_edges_102 rfl (lv_at hl 3 rfl) ?_
  refine lv_i2l hx hb d_T_edges_103 rfl ?_
  refine lv_iload hx hb d_T_edges_104 (lv_at hl 4 rfl) ?_
  refine lv_i2l hx hb d_T_edges_106 rfl ?_
  refine lv_lconst (v := (0 : Int64)) hx hb d_T_edges_107 (by decide) ?_
  refine vp_callSl (va_Run.run (va_runV (As := [.long (ep.toInt64), .long (0 : Int64), .long (0 : Int64), .long (eq.toInt64), .long (er.toInt64), .long (0 : Int64)]) (rest := [.long (f_P_prod fa fb fc fd fe ff (ep.toInt64) (0 : Int64) (0 : Int64) (es.toInt64) (et.toInt64) (eu.toInt64)), .long (f_P_prod fa fb fc fd fe ff (eq.toInt64) (er.toInt64) (0 : Int64) (es.toInt64) (et.toInt64) (eu.toInt64)), .ref h2]) ⟨hx, hb, hml, hown, htg⟩ (c_P_prod l D ct ([(h2, .inr (1, [.long ra_1, .long rb_2, .long rc_3, .long rx_4, .long ry_5, .long rz_6, .int rs_7])), (h0, .inr (2, [.ref h2, .ref h1, .int sz, .int fc_, .int fn_]))] ++ wt) (k2 + 2) h3 fa fb fc fd fe ff (ep.toInt64) (0 : Int64) (0 : Int64) (eq.toInt64) (er.toInt64) (0 : Int64) hk2  _ rfl) (cwV 6 htg (giV tm_327 tm_234 tm_235 tm_35 g_P_prod) rfl rfl rfl (by decide +kernel) ⟨Nat.le_of_ble_eq_true rfl, Nat.le_of_ble_eq_true rfl⟩) (preV hP hKK (va_recv hK hP (ci := 0) (q0 := (k2 + 2)) rfl hk2)) rfl rfl hl.1 rfl (lv_room (Nat.le_of_ble_eq_true rfl)) d_T_edges_108 ⟨Nat.le_of_ble_eq_true rfl, Nat.le_of_ble_eq_true rfl⟩)) (fun r9 hr9 => ?_)
  subst hr9
  obtain ⟨⟨ra_9, rb_10, rc_11, rx_12, ry_13, rz_14, rs_15⟩, e_16⟩ : ∃ v, f_R_setMx ra_1 rb_2 rc_3 rx_4 ry_5 rz_6 rs_7 (f_P_prod fa fb fc fd fe ff (eq.toInt64) (er.toInt64) (0 : Int64) (es.toInt64) (et.toInt64) (eu.toInt64)) (f_P_prod fa fb fc fd fe ff (ep.toInt64) (0 : Int64) (0 : Int64) (es.toInt64) (et.toInt64) (eu.toInt64)) (f_P_prod fa fb fc fd fe ff (ep.toInt64) (0 : Int64) (0 : Int64) (eq.toInt64) (er.toInt64) (0 : Int64)) = v := ⟨_, rfl⟩
  rw [e_16, bnd_eq] at h
  try dsimp only at h
  refine va_callv (va_runV (As := [.long (f_P_prod fa fb fc fd fe ff (eq.toInt64) (er.toInt64) (0 : Int64) (es.toInt64) (et.toInt64) (eu.toInt64)), .long (f_P_prod fa fb fc fd fe ff (ep.toInt64) (0 : Int64) (0 : Int64) (es.toInt64) (et.toInt64) (eu.toInt64)), .long (f_P_prod fa fb fc fd fe ff (ep.toInt64) (0 : Int64) (0 : Int64) (eq.toInt64) (er.toInt64) (0 : Int64))]) (rest := []) ⟨hx, hb, hml, hown, htg⟩ (c_R_setMx l D ct A ([(h0, .inr (2, [.ref h2, .ref h1, .int sz, .int fc_, .int fn_]))] ++ wt)  h2 ra_1 rb_2 rc_3 rx_4 ry_5 rz_6 rs_7 (f_P_prod fa fb fc fd fe ff (eq.toInt64) (er.toInt64) (0 : Int64) (es.toInt64) (et.toInt64) (eu.toInt64)) (f_P_prod fa fb fc fd fe ff (ep.toInt64) (0 : Int64) (0 : Int64) (es.toInt64) (et.toInt64) (eu.toInt64)) (f_P_prod fa fb fc fd fe ff (ep.toInt64) (0 : Int64) (0 : Int64) (eq.toInt64) (er.toInt64) (0 : Int64))  _ e_16) (cwV 3 htg (giV tm_329 tm_175 tm_176 tm_32 g_R_setMx) rfl rfl rfl (by decide +kernel) ⟨Nat.le_of_ble_eq_true rfl, Nat.le_of_ble_eq_true rfl⟩) (preVM hA hS hP hD hKK (va_recv hK hP (ci := 1) (q0 := 0) rfl rfl)) rfl rfl hl.1 rfl (lv_room (Nat.le_of_ble_eq_true rfl)) d_T_edges_111 ⟨Nat.le_of_ble_eq_true rfl, Nat.le_of_ble_eq_true rfl⟩) hS (fun q _ h9 => h9) (fun q h9 => h9) (fun u9 t9 H locs ht9 hvm9 hw9 hB9 hz9 hk9 hS => ?_)
  rw [hw9] at hB9
  obtain ⟨hP, hD⟩ := hB9
  rw [ht9] at hP
  have hP : va_P D classes ([(h2, .inr (1, [.long ra_9, .long rb_10, .long rc_11, .long rx_12, .long ry_13, .long rz_14, .int rs_15])), (h0, .inr (2, [.ref h2, .ref h1, .int sz, .int fc_, .int fn_]))] ++ wt) H := hP
  have hD : va_D A ([(h2, .inr (1, [.long ra_9, .long rb_10, .long rc_11, .long rx_12, .long ry_13, .long rz_14, .int rs_15])), (h0, .inr (2, [.ref h2, .ref h1, .int sz, .int fc_, .int fn_]))] ++ wt) := hD
  refine lv_aload_n hx hb d_T_edges_114 rfl (lv_at hl 0 rfl) ?_
  refine va_get (D := D) (ci := 2) (v := .ref h2) (C := R_Table) (T := F_Table) (N := 5) hx hb htg i_Table hown hK hP 1 rfl rfl 0 (by decide) (htg _ tm_84) (fun _ h9 => h9) rfl d_T_edges_115 ?_
  rcases e_24 : f_R_run ra_9 rb_10 rc_11 rx_12 ry_13 rz_14 rs_15 with _ | ⟨ra_17, rb_18, rc_19, rx_20, ry_21, rz_22, rs_23⟩
  · rw [e_24] at h; cases h
  rw [e_24, Option.bind_some] at h
  try dsimp only at h
  refine va_callv (va_runV (As := []) (rest := []) ⟨hx, hb, hml, hown, htg⟩ (c_R_run l D ct A ([(h0, .inr (2, [.ref h2, .ref h1, .int sz, .int fc_, .int fn_]))] ++ wt)  h2 ra_9 rb_10 rc_11 rx_12 ry_13 rz_14 rs_15  _ e_24) (cwV 0 htg (giV tm_330 tm_180 tm_181 tm_32 g_R_run) rfl rfl rfl (by decide +kernel) ⟨Nat.le_of_ble_eq_true rfl, Nat.le_of_ble_eq_true rfl⟩) (preVM hA hS hP hD hKK (va_recv hK hP (ci := 1) (q0 := 0) rfl rfl)) rfl rfl hl.1 rfl (lv_room (Nat.le_of_ble_eq_true rfl)) d_T_edges_118 ⟨Nat.le_of_ble_eq_true rfl, Nat.le_of_ble_eq_true rfl⟩) hS (fun q _ h9 => h9) (fun q h9 => h9) (fun u9 t9 H locs ht9 hvm9 hw9 hB9 hz9 hk9 hS => ?_)
  rw [hw9] at hB9
  obtain ⟨hP, hD⟩ := hB9
  rw [ht9] at hP
  have hP : va_P D classes ([(h2, .inr (1, [.long ra_17, .long rb_18, .long rc_19, .long rx_20, .long ry_21, .long rz_22, .int rs_23])), (h0, .inr (2, [.ref h2, .ref h1, .int sz, .int fc_, .int fn_]))] ++ wt) H := hP
  have hD : va_D A ([(h2, .inr (1, [.long ra_17, .long rb_18, .long rc_19, .long rx_20, .long ry_21, .long rz_22, .int rs_23])), (h0, .inr (2, [.ref h2, .ref h1, .int sz, .int fc_, .int fn_]))] ++ wt) := hD
  have hP := va_P.part (cx := [(h0, .inr (2, [.ref h2, .ref h1, .int sz, .int fc_, .int fn_])), (h2, .inr (1, [.long ra_17, .long rb_18, .long rc_19, .long rx_20, .long ry_21, .long rz_22, .int rs_23]))]) hP [1, 0] rfl
  have hD := va_D.part (cx := [(h0, .inr (2, [.ref h2, .ref h1, .int sz, .int fc_, .int fn_])), (h2, .inr (1, [.long ra_17, .long rb_18, .long rc_19, .long rx_20, .long ry_21, .long rz_22, .int rs_23]))]) hD [1, 0] (by decide) rfl
  exact W.vret hx hb hr (fun t ht hW => ⟨⟨(ra_17, rb_18, rc_19, rx_20, ry_21, rz_22, rs_23), rfl, (Option.some.inj h), by rw [ht]; exact hP, hD⟩, hS.F ht⟩) hS.2.2 d_T_edges_121
-- CellBench$MultipleTable addAll (LCellBench$Products;III)V
def lp_T_addAll_21 (fa : Int64) (fb : Int64) (fc : Int64) (fd : Int64) (fe : Int64) (ff : Int64) (ep : Int32) (er : Int32) (eu : Int32) : Nat → Int32 → Int32 → Int32 → (Nat → Int64) → Int32 → Int64 → Int64 → Int64 → Int64 → Int64 → Int64 → Int32 → Option (Int32 × Int32 × Int32 × (Nat → Int64) × Int32 × Int64 × Int64 × Int64 × Int64 × Int64 × Int64 × Int32)
  | 0, _, _, _, _, _, _, _, _, _, _, _, _ => none
  | n + 1, lq, ls_, lt, ro, sz, ra, rb, rc, rx, ry, rz, rs =>
    if er ≤ lt then (some (lq, ls_, lt, ro, sz, ra, rb, rc, rx, ry, rz, rs)) else (Option.bind (f_T_edges ra rb rc rx ry rz rs fa fb fc fd fe ff ep lq er ls_ lt eu) (fun z_16 => (Option.bind (f_T_count sz ro z_16.1 z_16.2.1 z_16.2.2.1 z_16.2.2.2.1 z_16.2.2.2.2.1 z_16.2.2.2.2.2.1 z_16.2.2.2.2.2.2) (fun z_15 => (lp_T_addAll_21 fa fb fc fd fe ff ep er eu n lq ls_ (lt + (1 : Int32)) z_15.1 z_15.2 z_16.1 z_16.2.1 z_16.2.2.1 z_16.2.2.2.1 z_16.2.2.2.2.1 z_16.2.2.2.2.2.1 z_16.2.2.2.2.2.2)))))
def lp_T_addAll_12 (fa : Int64) (fb : Int64) (fc : Int64) (fd : Int64) (fe : Int64) (ff : Int64) (ep : Int32) (er : Int32) (eu : Int32) : Nat → Int32 → Int32 → (Nat → Int64) → Int32 → Int64 → Int64 → Int64 → Int64 → Int64 → Int64 → Int32 → Option (Int32 × Int32 × (Nat → Int64) × Int32 × Int64 × Int64 × Int64 × Int64 × Int64 × Int64 × Int32)
  | 0, _, _, _, _, _, _, _, _, _, _, _ => none
  | n + 1, lq, ls_, ro, sz, ra, rb, rc, rx, ry, rz, rs =>
    if ep ≤ ls_ then (some (lq, ls_, ro, sz, ra, rb, rc, rx, ry, rz, rs)) else (Option.bind (lp_T_addAll_21 fa fb fc fd fe ff ep er eu 20 lq ls_ (0 : Int32) ro sz ra rb rc rx ry rz rs) (fun z_30 => (lp_T_addAll_12 fa fb fc fd fe ff ep er eu n z_30.1 (z_30.2.1 + (1 : Int32)) z_30.2.2.2.1 z_30.2.2.2.2.1 z_30.2.2.2.2.2.1 z_30.2.2.2.2.2.2.1 z_30.2.2.2.2.2.2.2.1 z_30.2.2.2.2.2.2.2.2.1 z_30.2.2.2.2.2.2.2.2.2.1 z_30.2.2.2.2.2.2.2.2.2.2.1 z_30.2.2.2.2.2.2.2.2.2.2.2)))
def lp_T_addAll_3 (fa : Int64) (fb : Int64) (fc : Int64) (fd : Int64) (fe : Int64) (ff : Int64) (ep : Int32) (er : Int32) (eu : Int32) : Nat → Int32 → (Nat → Int64) → Int32 → Int64 → Int64 → Int64 → Int64 → Int64 → Int64 → Int32 → Option ((Nat → Int64) × Int32 × Int64 × Int64 × Int64 × Int64 × Int64 × Int64 × Int32)
  | 0, _, _, _, _, _, _, _, _, _, _ => none
  | n + 1, lq, ro, sz, ra, rb, rc, rx, ry, rz, rs =>
    if ep ≤ lq then (some (ro, sz, ra, rb, rc, rx, ry, rz, rs)) else (Option.bind (lp_T_addAll_12 fa fb fc fd fe ff ep er eu 20 lq (0 : Int32) ro sz ra rb rc rx ry rz rs) (fun z_43 => (lp_T_addAll_3 fa fb fc fd fe ff ep er eu n (z_43.1 + (1 : Int32)) z_43.2.2.1 z_43.2.2.2.1 z_43.2.2.2.2.1 z_43.2.2.2.2.2.1 z_43.2.2.2.2.2.2.1 z_43.2.2.2.2.2.2.2.1 z_43.2.2.2.2.2.2.2.2.1 z_43.2.2.2.2.2.2.2.2.2.1 z_43.2.2.2.2.2.2.2.2.2.2)))
def f_T_addAll (sz : Int32) (ro : Nat → Int64) (ra : Int64) (rb : Int64) (rc : Int64) (rx : Int64) (ry : Int64) (rz : Int64) (rs : Int32) (fa : Int64) (fb : Int64) (fc : Int64) (fd : Int64) (fe : Int64) (ff : Int64) (ep : Int32) (er : Int32) (eu : Int32) : Option ((Nat → Int64) × Int32 × Int64 × Int64 × Int64 × Int64 × Int64 × Int64 × Int32) :=
    lp_T_addAll_3 fa fb fc fd fe ff ep er eu 20 (0 : Int32) ro sz ra rb rc rx ry rz rs
def w_T_addAll : List Cond := .code y_T_addAll b_T_addAll 8 none :: GW
abbrev rm_T_addAll : Room := { frames := 4, cells := 0, slots := 0, locals := 104 }
theorem g_T_addAll : GoodIn GW w_T_addAll := gi tm_322
set_option maxHeartbeats 4000000 in
set_option maxRecDepth 100000 in
theorem c_T_addAll (l : Launch) (D : va_G) (ct : CT) (A : Nat → Prop) (wt : va_W) (k3 : Nat) (h0 : Nat) (h2 : Nat) (h1 : Nat) (sz : Int32) (fc_ : Int32) (fn_ : Int32) (ro : Nat → Int64) (ra : Int64) (rb : Int64) (rc : Int64) (rx : Int64) (ry : Int64) (rz : Int64) (rs : Int32) (h3 : Nat) (fa : Int64) (fb : Int64) (fc : Int64) (fd : Int64) (fe : Int64) (ff : Int64) (ep : Int32) (er : Int32) (eu : Int32) (hk3 : wt[k3]? = some (h3, .inr (0, [.long fa, .long fb, .long fc, .long fd, .long fe, .long ff])))  (r0 : (Nat → Int64) × Int32 × Int64 × Int64 × Int64 × Int64 × Int64 × Int64 × Int32) (h : f_T_addAll sz ro ra rb rc rx ry rz rs fa fb fc fd fe ff ep er eu = some r0) : Met l y_T_addAll w_T_addAll rm_T_addAll (va_Pc [.ref h0, .ref h3, .int ep, .int er, .int eu] (PreM D ct A ([(h0, .inr (2, [.ref h2, .ref h1, .int sz, .int fc_, .int fn_])), (h1, .inl (ct.1, 3185, .inr (.inl ro))), (h2, .inr (1, [.long ra, .long rb, .long rc, .long rx, .long ry, .long rz, .int rs]))] ++ wt))) (va_Qv (fun u => u = r0) (fun (u : (Nat → Int64) × Int32 × Int64 × Int64 × Int64 × Int64 × Int64 × Int64 × Int32) t => match u with | (ro', sz', ra', rb', rc', rx', ry', rz', rs') => va_P D classes ([(h0, .inr (2, [.ref h2, .ref h1, .int sz', .int fc_, .int fn_])), (h1, .inl (ct.1, 3185, .inr (.inl ro'))), (h2, .inr (1, [.long ra', .long rb', .long rc', .long rx', .long ry', .long rz', .int rs']))] ++ wt) t.heap ∧ va_D A ([(h0, .inr (2, [.ref h2, .ref h1, .int sz', .int fc_, .int fn_])), (h1, .inl (ct.1, 3185, .inr (.inl ro'))), (h2, .inr (1, [.long ra', .long rb', .long rc', .long rx', .long ry', .long rz', .int rs']))] ++ wt)) A) 0 0 A := by
  refine Met.ofW (cc := b_T_addAll) (maxL := 8) (ret := none) (by decide) rfl ?_
  intro p e s m args below meth c s₁ B hml hv
  obtain ⟨rfl, hA, hP, hD, hKK⟩ := hv
  have hx := B.exec
  have hb := B.bytes
  have hr := B.returns
  have htg := ht_tl (atoms_spec (ws := w_T_addAll) B.pre)
  have hown : s.vm.findClass R_Table = some m.cls := findClass_of_methodNamed B.named
  have hlocks := B.notSynchronized
  have hK := hKK.1
  have hN := hKK.2.1
  have hO := hKK.2.2
  have hS : va_S A s.heap s.heap [] := va_S.rf
  have hl := lv_entry ([.ref h0, .ref h3, .int ep, .int er, .int eu]) (n := 8) (Nat.le_of_ble_eq_true rfl)
  rw [lg_entry_eq]
  generalize (lg_sl ([.ref h0, .ref h3, .int ep, .int er, .int eu]) ++ List.replicate (8 - (lg_sl ([.ref h0, .ref h3, .int ep, .int er, .int eu])).length) Slot.unset).toArray = ls at hl ⊢
  have hl : lv_has ls 8 [(0, .ref h0), (1, .ref h3), (2, .int ep), (3, .int er), (4, .int eu)] := hl
  unfold f_T_addAll at h
  refine lv_iconst (v := (0 : Int32)) hx hb d_T_addAll_0 (by decide) ?_
  refine lv_istore (lv' := [(5, .int (0 : Int32)), (0, .ref h0), (1, .ref h3), (2, .int ep), (3, .int er), (4, .int eu)]) hx hb d_T_addAll_1 hl (by decide) rfl (fun ls hl => ?_)
  have L_21 : ∀ (n : Nat) (lq : Int32) (ls_ : Int32) (lt : Int32) (ro : Nat → Int64) (sz : Int32) (ra : Int64) (rb : Int64) (rc : Int64) (rx : Int64) (ry : Int64) (rz : Int64) (rs : Int32) (lq' : Int32) (ls_' : Int32) (lt' : Int32) (ro' : Nat → Int64) (sz' : Int32) (ra' : Int64) (rb' : Int64) (rc' : Int64) (rx' : Int64) (ry' : Int64) (rz' : Int64) (rs' : Int32), lp_T_addAll_21 fa fb fc fd fe ff ep er eu n lq ls_ lt ro sz ra rb rc rx ry rz rs = some (lq', ls_', lt', ro', sz', ra', rb', rc', rx', ry', rz', rs') → ∀ (H : Heap) (locs : List Loc), va_P D classes ([(h0, .inr (2, [.ref h2, .ref h1, .int sz, .int fc_, .int fn_])), (h1, .inl (ct.1, 3185, .inr (.inl ro))), (h2, .inr (1, [.long ra, .long rb, .long rc, .long rx, .long ry, .long rz, .int rs]))] ++ wt) H → va_D A ([(h0, .inr (2, [.ref h2, .ref h1, .int sz, .int fc_, .int fn_])), (h1, .inl (ct.1, 3185, .inr (.inl ro))), (h2, .inr (1, [.long ra, .long rb, .long rc, .long rx, .long ry, .long rz, .int rs]))] ++ wt) → va_S A s.heap H locs → ∀ (ls : Array Slot), lv_has ls 8 [(5, .int lq), (6, .int ls_), (7, .int lt), (0, .ref h0), (1, .ref h3), (2, .int ep), (3, .int er), (4, .int eu)] → (∀ (H : Heap) (locs : List Loc), va_P D classes ([(h0, .inr (2, [.ref h2, .ref h1, .int sz', .int fc_, .int fn_])), (h1, .inl (ct.1, 3185, .inr (.inl ro'))), (h2, .inr (1, [.long ra', .long rb', .long rc', .long rx', .long ry', .long rz', .int rs']))] ++ wt) H → va_D A ([(h0, .inr (2, [.ref h2, .ref h1, .int sz', .int fc_, .int fn_])), (h1, .inl (ct.1, 3185, .inr (.inl ro'))), (h2, .inr (1, [.long ra', .long rb', .long rc', .long rx', .long ry', .long rz', .int rs']))] ++ wt) → va_S A s.heap H locs → ∀ (ls : Array Slot), lv_has ls 8 [(5, .int lq'), (6, .int ls_'), (7, .int lt'), (0, .ref h0), (1, .ref h3), (2, .int ep), (3, .int er), (4, .int eu)] → W p l e (headSpec w_T_addAll rm_T_addAll).room s m ([.ref h0, .ref h3, .int ep, .int er, .int eu] : List Value).toArray below meth c H locs 0 0 (MQ below (va_Qv (fun u => u = r0) (fun (u : (Nat → Int64) × Int32 × Int64 × Int64 × Int64 × Int64 × Int64 × Int64 × Int32) t => match u with | (ro', sz', ra', rb', rc', rx', ry', rz', rs') => va_P D classes ([(h0, .inr (2, [.ref h2, .ref h1, .int sz', .int fc_, .int fn_])), (h1, .inl (ct.1, 3185, .inr (.inl ro'))), (h2, .inr (1, [.long ra', .long rb', .long rc', .long rx', .long ry', .long rz', .int rs']))] ++ wt) t.heap ∧ va_D A ([(h0, .inr (2, [.ref h2, .ref h1, .int sz', .int fc_, .int fn_])), (h1, .inl (ct.1, 3185, .inr (.inl ro'))), (h2, .inr (1, [.long ra', .long rb', .long rc', .long rx', .long ry', .long rz', .int rs']))] ++ wt)) A) ([.ref h0, .ref h3, .int ep, .int er, .int eu] : List Value).toArray s 0 0 A) (F0 m 52 ls [])) → W p l e (headSpec w_T_addAll rm_T_addAll).room s m ([.ref h0, .ref h3, .int ep, .int er, .int eu] : List Value).toArray below meth c H locs 0 0 (MQ below (va_Qv (fun u => u = r0) (fun (u : (Nat → Int64) × Int32 × Int64 × Int64 × Int64 × Int64 × Int64 × Int64 × Int32) t => match u with | (ro', sz', ra', rb', rc', rx', ry', rz', rs') => va_P D classes ([(h0, .inr (2, [.ref h2, .ref h1, .int sz', .int fc_, .int fn_])), (h1, .inl (ct.1, 3185, .inr (.inl ro'))), (h2, .inr (1, [.long ra', .long rb', .long rc', .long rx', .long ry', .long rz', .int rs']))] ++ wt) t.heap ∧ va_D A ([(h0, .inr (2, [.ref h2, .ref h1, .int sz', .int fc_, .int fn_])), (h1, .inl (ct.1, 3185, .inr (.inl ro'))), (h2, .inr (1, [.long ra', .long rb', .long rc', .long rx', .long ry', .long rz', .int rs']))] ++ wt)) A) ([.ref h0, .ref h3, .int ep, .int er, .int eu] : List Value).toArray s 0 0 A) (F0 m 21 ls []) := by
    intro n
    induction n with
    | zero =>
      intro lq ls_ lt ro sz ra rb rc rx ry rz rs lq' ls_' lt' ro' sz' ra' rb' rc' rx' ry' rz' rs' h
      rw [lp_T_addAll_21] at h
      cases h
    | succ n ih =>
      intro lq ls_ lt ro sz ra rb rc rx ry rz rs lq' ls_' lt' ro' sz' ra' rb' rc' rx' ry' rz' rs' h H locs hP hD hS ls hl K
      rw [lp_T_addAll_21] at h
      refine lv_iload hx hb d_T_addAll_21 (lv_at hl 2 rfl) ?_
      refine lv_iload_n hx hb d_T_addAll_23 rfl (lv_at hl 6 rfl) ?_
      refine lv_icmp_ge (tgt := 52) hx hb d_T_addAll_24 (by decide) (fun c_3 => ?_) (fun c_3 => ?_)
      · rw [if_pos c_3] at h
        cases h
        exact K _ _ hP hD hS _ (lv_sub hl [0, 1, 2, 3, 4, 5, 6, 7] rfl)
      · rw [if_neg c_3] at h
        refine lv_aload_n hx hb d_T_addAll_27 rfl (lv_at hl 3 rfl) ?_
        refine lv_aload_n hx hb d_T_addAll_28 rfl (lv_at hl 4 rfl) ?_
        refine lv_iload_n hx hb d_T_addAll_29 rfl (lv_at hl 5 rfl) ?_
        refine lv_iload hx hb d_T_addAll_30 (lv_at hl 0 rfl) ?_
        refine lv_iload_n hx hb d_T_addAll_32 rfl (lv_at hl 6 rfl) ?_
        refine lv_iload hx hb d_T_addAll_33 (lv_at hl 1 rfl) ?_
        refine lv_iload hx hb d_T_addAll_35 (lv_at hl 2 rfl) ?_
        refine lv_iload hx hb d_T_addAll_37 (lv_at hl 7 rfl) ?_
        have hP := va_P.part (cx := [(h0, .inr (2, [.ref h2, .ref h1, .int sz, .int fc_, .int fn_])), (h2, .inr (1, [.long ra, .long rb, .long rc, .long rx, .long ry, .long rz, .int rs])), (h1, .inl (ct.1, 3185, .inr (.inl ro)))]) hP [0, 2, 1] rfl
        have hD := va_D.part (cx := [(h0, .inr (2, [.ref h2, .ref h1, .int sz, .int fc_, .int fn_])), (h2, .inr (1, [.long ra, .long rb, .long rc, .long rx, .long ry, .long rz, .int rs])), (h1, .inl (ct.1, 3185, .inr (.inl ro)))]) hD [0, 2, 1] (by decide) rfl
        rcases e_11 : f_T_edges ra rb rc rx ry rz rs fa fb fc fd fe ff ep lq er ls_ lt eu with _ | ⟨ra_4, rb_5, rc_6, rx_7, ry_8, rz_9, rs_10⟩
        · rw [e_11] at h; cases h
        rw [e_11, Option.bind_some] at h
        try dsimp only at h
        refine va_callv (va_runV (As := [.ref h3, .int ep, .int lq, .int er, .int ls_, .int lt, .int eu]) (rest := []) ⟨hx, hb, hml, hown, htg⟩ (c_T_edges l D ct A ([(h1, .inl (ct.1, 3185, .inr (.inl ro)))] ++ wt) (k3 + 1) h0 h2 h1 sz fc_ fn_ ra rb rc rx ry rz rs h3 fa fb fc fd fe ff ep lq er ls_ lt eu hk3 _ e_11) (cwV 7 htg (giV tm_323 tm_325 tm_13 tm_33 g_T_edges) rfl rfl rfl (by decide +kernel) ⟨Nat.le_of_ble_eq_true rfl, Nat.le_of_ble_eq_true rfl⟩) (preVM hA hS hP hD hKK (va_recv hK hP (ci := 2) (q0 := 0) rfl rfl)) rfl rfl hl.1 rfl (lv_room (Nat.le_of_ble_eq_true rfl)) d_T_addAll_39 ⟨Nat.le_of_ble_eq_true rfl, Nat.le_of_ble_eq_true rfl⟩) hS (fun q _ h9 => h9) (fun q h9 => h9) (fun u9 t9 H locs ht9 hvm9 hw9 hB9 hz9 hk9 hS => ?_)
        rw [hw9] at hB9
        obtain ⟨hP, hD⟩ := hB9
        rw [ht9] at hP
        have hP : va_P D classes ([(h0, .inr (2, [.ref h2, .ref h1, .int sz, .int fc_, .int fn_])), (h2, .inr (1, [.long ra_4, .long rb_5, .long rc_6, .long rx_7, .long ry_8, .long rz_9, .int rs_10])), (h1, .inl (ct.1, 3185, .inr (.inl ro)))] ++ wt) H := hP
        have hD : va_D A ([(h0, .inr (2, [.ref h2, .ref h1, .int sz, .int fc_, .int fn_])), (h2, .inr (1, [.long ra_4, .long rb_5, .long rc_6, .long rx_7, .long ry_8, .long rz_9, .int rs_10])), (h1, .inl (ct.1, 3185, .inr (.inl ro)))] ++ wt) := hD
        refine lv_aload_n hx hb d_T_addAll_42 rfl (lv_at hl 3 rfl) ?_
        have hP := va_P.part (cx := [(h0, .inr (2, [.ref h2, .ref h1, .int sz, .int fc_, .int fn_])), (h1, .inl (ct.1, 3185, .inr (.inl ro))), (h2, .inr (1, [.long ra_4, .long rb_5, .long rc_6, .long rx_7, .long ry_8, .long rz_9, .int rs_10]))]) hP [0, 2, 1] rfl
        have hD := va_D.part (cx := [(h0, .inr (2, [.ref h2, .ref h1, .int sz, .int fc_, .int fn_])), (h1, .inl (ct.1, 3185, .inr (.inl ro))), (h2, .inr (1, [.long ra_4, .long rb_5, .long rc_6, .long rx_7, .long ry_8, .long rz_9, .int rs_10]))]) hD [0, 2, 1] (by decide) rfl
        rcases e_14 : f_T_count sz ro ra_4 rb_5 rc_6 rx_7 ry_8 rz_9 rs_10 with _ | ⟨ro_12, sz_13⟩
        · rw [e_14] at h; cases h
        rw [e_14, Option.bind_some] at h
        try dsimp only at h
        refine va_callv (va_runV (As := []) (rest := []) ⟨hx, hb, hml, hown, htg⟩ (c_T_count l D ct A ([] ++ wt)  h0 h2 h1 sz fc_ fn_ ro ra_4 rb_5 rc_6 rx_7 ry_8 rz_9 rs_10  _ e_14) (cwV 0 htg (giV tm_331 tm_333 tm_14 tm_33 g_T_count) rfl rfl rfl (by decide +kernel) ⟨Nat.le_of_ble_eq_true rfl, Nat.le_of_ble_eq_true rfl⟩) (preVM hA hS hP hD hKK (va_recv hK hP (ci := 2) (q0 := 0) rfl rfl)) rfl rfl hl.1 rfl (lv_room (Nat.le_of_ble_eq_true rfl)) d_T_addAll_43 ⟨Nat.le_of_ble_eq_true rfl, Nat.le_of_ble_eq_true rfl⟩) hS (fun q _ h9 => h9) (fun q h9 => h9) (fun u9 t9 H locs ht9 hvm9 hw9 hB9 hz9 hk9 hS => ?_)
        rw [hw9] at hB9
        obtain ⟨hP, hD⟩ := hB9
        rw [ht9] at hP
        have hP : va_P D classes ([(h0, .inr (2, [.ref h2, .ref h1, .int sz_13, .int fc_, .int fn_])), (h1, .inl (ct.1, 3185, .inr (.inl ro_12))), (h2, .inr (1, [.long ra_4, .long rb_5, .long rc_6, .long rx_7, .long ry_8, .long rz_9, .int rs_10]))] ++ wt) H := hP
        have hD : va_D A ([(h0, .inr (2, [.ref h2, .ref h1, .int sz_13, .int fc_, .int fn_])), (h1, .inl (ct.1, 3185, .inr (.inl ro_12))), (h2, .inr (1, [.long ra_4, .long rb_5, .long rc_6, .long rx_7, .long ry_8, .long rz_9, .int rs_10]))] ++ wt) := hD
        refine lv_iinc (v := lt + (1 : Int32)) (lv' := [(7, .int (lt + (1 : Int32))), (5, .int lq), (6, .int ls_), (0, .ref h0), (1, .ref h3), (2, .int ep), (3, .int er), (4, .int eu)]) hx hb d_T_addAll_46 hl (k := 2) rfl rfl (by decide) rfl (fun ls hl => ?_)
        refine lv_goto (tgt := 21) hx hb d_T_addAll_49 (by decide) ?_
        exact ih lq ls_ (lt + (1 : Int32)) ro_12 sz_13 ra_4 rb_5 rc_6 rx_7 ry_8 rz_9 rs_10 _ _ _ _ _ _ _ _ _ _ _ _ h H locs hP hD hS ls (lv_sub hl [1, 2, 0, 3, 4, 5, 6, 7] rfl) K
  have L_12 : ∀ (n : Nat) (lq : Int32) (ls_ : Int32) (ro : Nat → Int64) (sz : Int32) (ra : Int64) (rb : Int64) (rc : Int64) (rx : Int64) (ry : Int64) (rz : Int64) (rs : Int32) (lq' : Int32) (ls_' : Int32) (ro' : Nat → Int64) (sz' : Int32) (ra' : Int64) (rb' : Int64) (rc' : Int64) (rx' : Int64) (ry' : Int64) (rz' : Int64) (rs' : Int32), lp_T_addAll_12 fa fb fc fd fe ff ep er eu n lq ls_ ro sz ra rb rc rx ry rz rs = some (lq', ls_', ro', sz', ra', rb', rc', rx', ry', rz', rs') → ∀ (H : Heap) (locs : List Loc), va_P D classes ([(h0, .inr (2, [.ref h2, .ref h1, .int sz, .int fc_, .int fn_])), (h1, .inl (ct.1, 3185, .inr (.inl ro))), (h2, .inr (1, [.long ra, .long rb, .long rc, .long rx, .long ry, .long rz, .int rs]))] ++ wt) H → va_D A ([(h0, .inr (2, [.ref h2, .ref h1, .int sz, .int fc_, .int fn_])), (h1, .inl (ct.1, 3185, .inr (.inl ro))), (h2, .inr (1, [.long ra, .long rb, .long rc, .long rx, .long ry, .long rz, .int rs]))] ++ wt) → va_S A s.heap H locs → ∀ (ls : Array Slot), lv_has ls 8 [(5, .int lq), (6, .int ls_), (0, .ref h0), (1, .ref h3), (2, .int ep), (3, .int er), (4, .int eu)] → (∀ (H : Heap) (locs : List Loc), va_P D classes ([(h0, .inr (2, [.ref h2, .ref h1, .int sz', .int fc_, .int fn_])), (h1, .inl (ct.1, 3185, .inr (.inl ro'))), (h2, .inr (1, [.long ra', .long rb', .long rc', .long rx', .long ry', .long rz', .int rs']))] ++ wt) H → va_D A ([(h0, .inr (2, [.ref h2, .ref h1, .int sz', .int fc_, .int fn_])), (h1, .inl (ct.1, 3185, .inr (.inl ro'))), (h2, .inr (1, [.long ra', .long rb', .long rc', .long rx', .long ry', .long rz', .int rs']))] ++ wt) → va_S A s.heap H locs → ∀ (ls : Array Slot), lv_has ls 8 [(5, .int lq'), (6, .int ls_'), (0, .ref h0), (1, .ref h3), (2, .int ep), (3, .int er), (4, .int eu)] → W p l e (headSpec w_T_addAll rm_T_addAll).room s m ([.ref h0, .ref h3, .int ep, .int er, .int eu] : List Value).toArray below meth c H locs 0 0 (MQ below (va_Qv (fun u => u = r0) (fun (u : (Nat → Int64) × Int32 × Int64 × Int64 × Int64 × Int64 × Int64 × Int64 × Int32) t => match u with | (ro', sz', ra', rb', rc', rx', ry', rz', rs') => va_P D classes ([(h0, .inr (2, [.ref h2, .ref h1, .int sz', .int fc_, .int fn_])), (h1, .inl (ct.1, 3185, .inr (.inl ro'))), (h2, .inr (1, [.long ra', .long rb', .long rc', .long rx', .long ry', .long rz', .int rs']))] ++ wt) t.heap ∧ va_D A ([(h0, .inr (2, [.ref h2, .ref h1, .int sz', .int fc_, .int fn_])), (h1, .inl (ct.1, 3185, .inr (.inl ro'))), (h2, .inr (1, [.long ra', .long rb', .long rc', .long rx', .long ry', .long rz', .int rs']))] ++ wt)) A) ([.ref h0, .ref h3, .int ep, .int er, .int eu] : List Value).toArray s 0 0 A) (F0 m 58 ls [])) → W p l e (headSpec w_T_addAll rm_T_addAll).room s m ([.ref h0, .ref h3, .int ep, .int er, .int eu] : List Value).toArray below meth c H locs 0 0 (MQ below (va_Qv (fun u => u = r0) (fun (u : (Nat → Int64) × Int32 × Int64 × Int64 × Int64 × Int64 × Int64 × Int64 × Int32) t => match u with | (ro', sz', ra', rb', rc', rx', ry', rz', rs') => va_P D classes ([(h0, .inr (2, [.ref h2, .ref h1, .int sz', .int fc_, .int fn_])), (h1, .inl (ct.1, 3185, .inr (.inl ro'))), (h2, .inr (1, [.long ra', .long rb', .long rc', .long rx', .long ry', .long rz', .int rs']))] ++ wt) t.heap ∧ va_D A ([(h0, .inr (2, [.ref h2, .ref h1, .int sz', .int fc_, .int fn_])), (h1, .inl (ct.1, 3185, .inr (.inl ro'))), (h2, .inr (1, [.long ra', .long rb', .long rc', .long rx', .long ry', .long rz', .int rs']))] ++ wt)) A) ([.ref h0, .ref h3, .int ep, .int er, .int eu] : List Value).toArray s 0 0 A) (F0 m 12 ls []) := by
    intro n
    induction n with
    | zero =>
      intro lq ls_ ro sz ra rb rc rx ry rz rs lq' ls_' ro' sz' ra' rb' rc' rx' ry' rz' rs' h
      rw [lp_T_addAll_12] at h
      cases h
    | succ n ih =>
      intro lq ls_ ro sz ra rb rc rx ry rz rs lq' ls_' ro' sz' ra' rb' rc' rx' ry' rz' rs' h H locs hP hD hS ls hl K
      rw [lp_T_addAll_12] at h
      refine lv_iload hx hb d_T_addAll_12 (lv_at hl 1 rfl) ?_
      refine lv_iload_n hx hb d_T_addAll_14 rfl (lv_at hl 4 rfl) ?_
      refine lv_icmp_ge (tgt := 58) hx hb d_T_addAll_15 (by decide) (fun c_2 => ?_) (fun c_2 => ?_)
      · rw [if_pos c_2] at h
        cases h
        exact K _ _ hP hD hS _ (lv_sub hl [0, 1, 2, 3, 4, 5, 6] rfl)
      · rw [if_neg c_2] at h
        refine lv_iconst (v := (0 : Int32)) hx hb d_T_addAll_18 (by decide) ?_
        refine lv_istore (lv' := [(7, .int (0 : Int32)), (5, .int lq), (6, .int ls_), (0, .ref h0), (1, .ref h3), (2, .int ep), (3, .int er), (4, .int eu)]) hx hb d_T_addAll_19 hl (by decide) rfl (fun ls hl => ?_)
        rcases e_29 : lp_T_addAll_21 fa fb fc fd fe ff ep er eu 20 lq ls_ (0 : Int32) ro sz ra rb rc rx ry rz rs with _ | ⟨lq_17, ls__18, lt_19, ro_20, sz_21, ra_22, rb_23, rc_24, rx_25, ry_26, rz_27, rs_28⟩
        · rw [e_29] at h; cases h
        rw [e_29, Option.bind_some] at h
        try dsimp only at h
        refine L_21 20 lq ls_ (0 : Int32) ro sz ra rb rc rx ry rz rs lq_17 ls__18 lt_19 ro_20 sz_21 ra_22 rb_23 rc_24 rx_25 ry_26 rz_27 rs_28 e_29 _ _ hP hD hS ls (lv_sub hl [1, 2, 0, 3, 4, 5, 6, 7] rfl) (fun H locs hP hD hS ls hl => ?_)
        refine lv_iinc (v := ls__18 + (1 : Int32)) (lv' := [(6, .int (ls__18 + (1 : Int32))), (5, .int lq_17), (7, .int lt_19), (0, .ref h0), (1, .ref h3), (2, .int ep), (3, .int er), (4, .int eu)]) hx hb d_T_addAll_52 hl (k := 1) rfl rfl (by decide) rfl (fun ls hl => ?_)
        refine lv_goto (tgt := 12) hx hb d_T_addAll_55 (by decide) ?_
        exact ih lq_17 (ls__18 + (1 : Int32)) ro_20 sz_21 ra_22 rb_23 rc_24 rx_25 ry_26 rz_27 rs_28 _ _ _ _ _ _ _ _ _ _ _ h H locs hP hD hS ls (lv_sub hl [1, 0, 3, 4, 5, 6, 7] rfl) K
  have L_3 : ∀ (n : Nat) (lq : Int32) (ro : Nat → Int64) (sz : Int32) (ra : Int64) (rb : Int64) (rc : Int64) (rx : Int64) (ry : Int64) (rz : Int64) (rs : Int32) , lp_T_addAll_3 fa fb fc fd fe ff ep er eu n lq ro sz ra rb rc rx ry rz rs = some r0 → ∀ (H : Heap) (locs : List Loc), va_P D classes ([(h0, .inr (2, [.ref h2, .ref h1, .int sz, .int fc_, .int fn_])), (h1, .inl (ct.1, 3185, .inr (.inl ro))), (h2, .inr (1, [.long ra, .long rb, .long rc, .long rx, .long ry, .long rz, .int rs]))] ++ wt) H → va_D A ([(h0, .inr (2, [.ref h2, .ref h1, .int sz, .int fc_, .int fn_])), (h1, .inl (ct.1, 3185, .inr (.inl ro))), (h2, .inr (1, [.long ra, .long rb, .long rc, .long rx, .long ry, .long rz, .int rs]))] ++ wt) → va_S A s.heap H locs → ∀ (ls : Array Slot), lv_has ls 8 [(5, .int lq), (0, .ref h0), (1, .ref h3), (2, .int ep), (3, .int er), (4, .int eu)] → W p l e (headSpec w_T_addAll rm_T_addAll).room s m ([.ref h0, .ref h3, .int ep, .int er, .int eu] : List Value).toArray below meth c H locs 0 0 (MQ below (va_Qv (fun u => u = r0) (fun (u : (Nat → Int64) × Int32 × Int64 × Int64 × Int64 × Int64 × Int64 × Int64 × Int32) t => match u with | (ro', sz', ra', rb', rc', rx', ry', rz', rs') => va_P D classes ([(h0, .inr (2, [.ref h2, .ref h1, .int sz', .int fc_, .int fn_])), (h1, .inl (ct.1, 3185, .inr (.inl ro'))), (h2, .inr (1, [.long ra', .long rb', .long rc', .long rx', .long ry', .long rz', .int rs']))] ++ wt) t.heap ∧ va_D A ([(h0, .inr (2, [.ref h2, .ref h1, .int sz', .int fc_, .int fn_])), (h1, .inl (ct.1, 3185, .inr (.inl ro'))), (h2, .inr (1, [.long ra', .long rb', .long rc', .long rx', .long ry', .long rz', .int rs']))] ++ wt)) A) ([.ref h0, .ref h3, .int ep, .int er, .int eu] : List Value).toArray s 0 0 A) (F0 m 3 ls []) := by
    intro n
    induction n with
    | zero =>
      intro lq ro sz ra rb rc rx ry rz rs  h
      rw [lp_T_addAll_3] at h
      cases h
    | succ n ih =>
      intro lq ro sz ra rb rc rx ry rz rs  h H locs hP hD hS ls hl
      rw [lp_T_addAll_3] at h
      refine lv_iload hx hb d_T_addAll_3 (lv_at hl 0 rfl) ?_
      refine lv_iload_n hx hb d_T_addAll_5 rfl (lv_at hl 3 rfl) ?_
      refine lv_icmp_ge (tgt := 64) hx hb d_T_addAll_6 (by decide) (fun c_1 => ?_) (fun c_1 => ?_)
      · rw [if_pos c_1] at h
        exact W.vret hx hb hr (fun t ht hW => ⟨⟨(ro, sz, ra, rb, rc, rx, ry, rz, rs), rfl, (Option.some.inj h), by rw [ht]; exact hP, hD⟩, hS.F ht⟩) hS.2.2 d_T_addAll_64
      · rw [if_neg c_1] at h
        refine lv_iconst (v := (0 : Int32)) hx hb d_T_addAll_9 (by decide) ?_
        refine lv_istore (lv' := [(6, .int (0 : Int32)), (5, .int lq), (0, .ref h0), (1, .ref h3), (2, .int ep), (3, .int er), (4, .int eu)]) hx hb d_T_addAll_10 hl (by decide) rfl (fun ls hl => ?_)
        rcases e_42 : lp_T_addAll_12 fa fb fc fd fe ff ep er eu 20 lq (0 : Int32) ro sz ra rb rc rx ry rz rs with _ | ⟨lq_31, ls__32, ro_33, sz_34, ra_35, rb_36, rc_37, rx_38, ry_39, rz_40, rs_41⟩
        · rw [e_42] at h; cases h
        rw [e_42, Option.bind_some] at h
        try dsimp only at h
        refine L_12 20 lq (0 : Int32) ro sz ra rb rc rx ry rz rs lq_31 ls__32 ro_33 sz_34 ra_35 rb_36 rc_37 rx_38 ry_39 rz_40 rs_41 e_42 _ _ hP hD hS ls (lv_sub hl [1, 0, 2, 3, 4, 5, 6] rfl) (fun H locs hP hD hS ls hl => ?_)
        refine lv_iinc (v := lq_31 + (1 : Int32)) (lv' := [(5, .int (lq_31 + (1 : Int32))), (6, .int ls__32), (0, .ref h0), (1, .ref h3), (2, .int ep), (3, .int er), (4, .int eu)]) hx hb d_T_addAll_58 hl (k := 0) rfl rfl (by decide) rfl (fun ls hl => ?_)
        refine lv_goto (tgt := 3) hx hb d_T_addAll_61 (by decide) ?_
        exact ih (lq_31 + (1 : Int32)) ro_33 sz_34 ra_35 rb_36 rc_37 rx_38 ry_39 rz_40 rs_41 h H locs hP hD hS ls (lv_sub hl [0, 2, 3, 4, 5, 6] rfl)
  exact L_3 20 (0 : Int32) ro sz ra rb rc rx ry rz rs h _ _ hP hD hS ls (lv_sub hl [0, 1, 2, 3, 4, 5] rfl)
-- CellBench$MultipleTable fill (ILCellBench$Products;I)V
def lp_T_fill_44 (fa : Int64) (fb : Int64) (fc : Int64) (fd : Int64) (fe : Int64) (ff : Int64) (cl : Int32) (nn : Int32) : Nat → Int32 → Int32 → (Nat → Int64) → Int32 → Int32 → Int32 → Int64 → Int64 → Int64 → Int64 → Int64 → Int64 → Int32 → Option (Int32 × Int32 × (Nat → Int64) × Int32 × Int32 × Int32 × Int64 × Int64 × Int64 × Int64 × Int64 × Int64 × Int32)
  | 0, _, _, _, _, _, _, _, _, _, _, _, _, _ => none
  | n + 1, lp_, lr, ro, sz, fc_, fn_, ra, rb, rc, rx, ry, rz, rs =>
    if nn < (lp_ * lr) then (some (lp_, lr, ro, sz, fc_, fn_, ra, rb, rc, rx, ry, rz, rs)) else (if lp_ * lr = 0 then none else (if (nn - nn / (lp_ * lr) * (lp_ * lr)) = 0 then (if lp_ * lr = 0 then none else (Option.bind (f_T_addAll sz ro ra rb rc rx ry rz rs fa fb fc fd fe ff lp_ lr (nn / (lp_ * lr))) (fun z_17 => (lp_T_fill_44 fa fb fc fd fe ff cl nn n lp_ (lr + (1 : Int32)) z_17.1 z_17.2.1 fc_ fn_ z_17.2.2.1 z_17.2.2.2.1 z_17.2.2.2.2.1 z_17.2.2.2.2.2.1 z_17.2.2.2.2.2.2.1 z_17.2.2.2.2.2.2.2.1 z_17.2.2.2.2.2.2.2.2)))) else (lp_T_fill_44 fa fb fc fd fe ff cl nn n lp_ (lr + (1 : Int32)) ro sz fc_ fn_ ra rb rc rx ry rz rs)))
def lp_T_fill_35 (fa : Int64) (fb : Int64) (fc : Int64) (fd : Int64) (fe : Int64) (ff : Int64) (cl : Int32) (nn : Int32) : Nat → Int32 → (Nat → Int64) → Int32 → Int32 → Int32 → Int64 → Int64 → Int64 → Int64 → Int64 → Int64 → Int32 → Option ((Nat → Int64) × Int32 × Int32 × Int32 × Int64 × Int64 × Int64 × Int64 × Int64 × Int64 × Int32)
  | 0, _, _, _, _, _, _, _, _, _, _, _, _ => none
  | n + 1, lp_, ro, sz, fc_, fn_, ra, rb, rc, rx, ry, rz, rs =>
    if nn < lp_ then (some (ro, sz, fc_, fn_, ra, rb, rc, rx, ry, rz, rs)) else (Option.bind (lp_T_fill_44 fa fb fc fd fe ff cl nn 20 lp_ (1 : Int32) ro sz fc_ fn_ ra rb rc rx ry rz rs) (fun z_32 => (lp_T_fill_35 fa fb fc fd fe ff cl nn n (z_32.1 + (1 : Int32)) z_32.2.2.1 z_32.2.2.2.1 z_32.2.2.2.2.1 z_32.2.2.2.2.2.1 z_32.2.2.2.2.2.2.1 z_32.2.2.2.2.2.2.2.1 z_32.2.2.2.2.2.2.2.2.1 z_32.2.2.2.2.2.2.2.2.2.1 z_32.2.2.2.2.2.2.2.2.2.2.1 z_32.2.2.2.2.2.2.2.2.2.2.2.1 z_32.2.2.2.2.2.2.2.2.2.2.2.2)))
def f_T_fill (sz : Int32) (fc_ : Int32) (fn_ : Int32) (ro : Nat → Int64) (ra : Int64) (rb : Int64) (rc : Int64) (rx : Int64) (ry : Int64) (rz : Int64) (rs : Int32) (fa : Int64) (fb : Int64) (fc : Int64) (fd : Int64) (fe : Int64) (ff : Int64) (cl : Int32) (nn : Int32) : Option ((Nat → Int64) × Int32 × Int32 × Int32 × Int64 × Int64 × Int64 × Int64 × Int64 × Int64 × Int32) :=
    if fc_ = cl then (if fn_ = nn then (some (ro, sz, fc_, fn_, ra, rb, rc, rx, ry, rz, rs)) else (lp_T_fill_35 fa fb fc fd fe ff cl nn 20 (1 : Int32) ro (0 : Int32) cl nn ra rb rc rx ry rz rs)) else (lp_T_fill_35 fa fb fc fd fe ff cl nn 20 (1 : Int32) ro (0 : Int32) cl nn ra rb rc rx ry rz rs)
def w_T_fill : List Cond := .code y_T_fill b_T_fill 6 none :: GW
abbrev rm_T_fill : Room := { frames := 5, cells := 0, slots := 0, locals := 131 }
theorem g_T_fill : GoodIn GW w_T_fill := gi tm_318
set_option maxHeartbeats 4000000 in
set_option maxRecDepth 100000 in
theorem c_T_fill (l : Launch) (D : va_G) (ct : CT) (A : Nat → Prop) (wt : va_W) (k3 : Nat) (h0 : Nat) (h2 : Nat) (h1 : Nat) (sz : Int32) (fc_ : Int32) (fn_ : Int32) (ro : Nat → Int64) (ra : Int64) (rb : Int64) (rc : Int64) (rx : Int64) (ry : Int64) (rz : Int64) (rs : Int32) (h3 : Nat) (fa : Int64) (fb : Int64) (fc : Int64) (fd : Int64) (fe : Int64) (ff : Int64) (cl : Int32) (nn : Int32) (hk3 : wt[k3]? = some (h3, .inr (0, [.long fa, .long fb, .long fc, .long fd, .long fe, .long ff])))  (r0 : (Nat → Int64) × Int32 × Int32 × Int32 × Int64 × Int64 × Int64 × Int64 × Int64 × Int64 × Int32) (h : f_T_fill sz fc_ fn_ ro ra rb rc rx ry rz rs fa fb fc fd fe ff cl nn = some r0) : Met l y_T_fill w_T_fill rm_T_fill (va_Pc [.ref h0, .int cl, .ref h3, .int nn] (PreM D ct A ([(h0, .inr (2, [.ref h2, .ref h1, .int sz, .int fc_, .int fn_])), (h1, .inl (ct.1, 3185, .inr (.inl ro))), (h2, .inr (1, [.long ra, .long rb, .long rc, .long rx, .long ry, .long rz, .int rs]))] ++ wt))) (va_Qv (fun u => u = r0) (fun (u : (Nat → Int64) × Int32 × Int32 × Int32 × Int64 × Int64 × Int64 × Int64 × Int64 × Int64 × Int32) t => match u with | (ro', sz', fc_', fn_', ra', rb', rc', rx', ry', rz', rs') => va_P D classes ([(h0, .inr (2, [.ref h2, .ref h1, .int sz', .int fc_', .int fn_'])), (h1, .inl (ct.1, 3185, .inr (.inl ro'))), (h2, .inr (1, [.long ra', .long rb', .long rc', .long rx', .long ry', .long rz', .int rs']))] ++ wt) t.heap ∧ va_D A ([(h0, .inr (2, [.ref h2, .ref h1, .int sz', .int fc_', .int fn_'])), (h1, .inl (ct.1, 3185, .inr (.inl ro'))), (h2, .inr (1, [.long ra', .long rb', .long rc', .long rx', .long ry', .long rz', .int rs']))] ++ wt)) A) 0 0 A := by
  refine Met.ofW (cc := b_T_fill) (maxL := 6) (ret := none) (by decide) rfl ?_
  intro p e s m args below meth c s₁ B hml hv
  obtain ⟨rfl, hA, hP, hD, hKK⟩ := hv
  have hx := B.exec
  have hb := B.bytes
  have hr := B.returns
  have htg := ht_tl (atoms_spec (ws := w_T_fill) B.pre)
  have hown : s.vm.findClass R_Table = some m.cls := findClass_of_methodNamed B.named
  have hlocks := B.notSynchronized
  have hK := hKK.1
  have hN := hKK.2.1
  have hO := hKK.2.2
  have hS : va_S A s.heap s.heap [] := va_S.rf
  have hl := lv_entry ([.ref h0, .int cl, .ref h3, .int nn]) (n := 6) (Nat.le_of_ble_eq_true rfl)
  rw [lg_entry_eq]
  generalize (lg_sl ([.ref h0, .int cl, .ref h3, .int nn]) ++ List.replicate (6 - (lg_sl ([.ref h0, .int cl, .ref h3, .int nn])).length) Slot.unset).toArray = ls at hl ⊢
  have hl : lv_has ls 6 [(0, .ref h0), (1, .int cl), (2, .ref h3), (3, .int nn)] := hl
  unfold f_T_fill at h
  refine lv_aload_n hx hb d_T_fill_0 rfl (lv_at hl 0 rfl) ?_
  refine va_get (D := D) (ci := 2) (v := .int fc_) (C := R_Table) (T := F_Table) (N := 5) hx hb htg i_Table hown hK hP 0 rfl rfl 3 (by decide) (htg _ tm_87) (fun _ h9 => h9) rfl d_T_fill_1 ?_
  refine lv_iload_n hx hb d_T_fill_4 rfl (lv_at hl 1 rfl) ?_
  refine lv_icmp_ne (tgt := 17) hx hb d_T_fill_5 (by decide) (fun c_1 => ?_) (fun c_1 => ?_)
  · rw [if_neg c_1] at h
    refine lv_aload_n hx hb d_T_fill_17 rfl (lv_at hl 0 rfl) ?_
    refine lv_iload_n hx hb d_T_fill_18 rfl (lv_at hl 1 rfl) ?_
    refine va_put (D := D) (ci := 2) (v := .int cl) (ty := .int) (C := R_Table) (T := F_Table) (N := 5) hx hb htg i_Table t_Table t_Table_ok n_Table hown hK hP hD hS 0 rfl rfl 3 (by decide) (htg _ tm_87) (fun _ h9 => h9) rfl (by decide +kernel) rfl rfl (Nat.le_of_ble_eq_true rfl) d_T_fill_19 (fun H locs hP hD hS => ?_)
    have hP : va_P D classes ([(h0, .inr (2, [.ref h2, .ref h1, .int sz, .int cl, .int fn_])), (h1, .inl (ct.1, 3185, .inr (.inl ro))), (h2, .inr (1, [.long ra, .long rb, .long rc, .long rx, .long ry, .long rz, .int rs]))] ++ wt) H := hP
    have hD : va_D A ([(h0, .inr (2, [.ref h2, .ref h1, .int sz, .int cl, .int fn_])), (h1, .inl (ct.1, 3185, .inr (.inl ro))), (h2, .inr (1, [.long ra, .long rb, .long rc, .long rx, .long ry, .long rz, .int rs]))] ++ wt) := hD
    refine lv_aload_n hx hb d_T_fill_22 rfl (lv_at hl 0 rfl) ?_
    refine lv_iload_n hx hb d_T_fill_23 rfl (lv_at hl 3 rfl) ?_
    refine va_put (D := D) (ci := 2) (v := .int nn) (ty := .int) (C := R_Table) (T := F_Table) (N := 5) hx hb htg i_Table t_Table t_Table_ok n_Table hown hK hP hD hS 0 rfl rfl 4 (by decide) (htg _ tm_88) (fun _ h9 => h9) rfl (by decide +kernel) rfl rfl (Nat.le_of_ble_eq_true rfl) d_T_fill_24 (fun H locs hP hD hS => ?_)
    have hP : va_P D classes ([(h0, .inr (2, [.ref h2, .ref h1, .int sz, .int cl, .int nn])), (h1, .inl (ct.1, 3185, .inr (.inl ro))), (h2, .inr (1, [.long ra, .long rb, .long rc, .long rx, .long ry, .long rz, .int rs]))] ++ wt) H := hP
    have hD : va_D A ([(h0, .inr (2, [.ref h2, .ref h1, .int sz, .int cl, .int nn])), (h1, .inl (ct.1, 3185, .inr (.inl ro))), (h2, .inr (1, [.long ra, .long rb, .long rc, .long rx, .long ry, .long rz, .int rs]))] ++ wt) := hD
    refine lv_aload_n hx hb d_T_fill_27 rfl (lv_at hl 0 rfl) ?_
    refine lv_iconst (v := (0 : Int32)) hx hb d_T_fill_28 (by decide) ?_
    refine va_put (D := D) (ci := 2) (v := .int (0 : Int32)) (ty := .int) (C := R_Table) (T := F_Table) (N := 5) hx hb htg i_Table t_Table t_Table_ok n_Table hown hK hP hD hS 0 rfl rfl 2 (by decide) (htg _ tm_86) (fun _ h9 => h9) rfl (by decide +kernel) rfl rfl (Nat.le_of_ble_eq_true rfl) d_T_fill_29 (fun H locs hP hD hS => ?_)
    have hP : va_P D classes ([(h0, .inr (2, [.ref h2, .ref h1, .int (0 : Int32), .int cl, .int nn])), (h1, .inl (ct.1, 3185, .inr (.inl ro))), (h2, .inr (1, [.long ra, .long rb, .long rc, .long rx, .long ry, .long rz, .int rs]))] ++ wt) H := hP
    have hD : va_D A ([(h0, .inr (2, [.ref h2, .ref h1, .int (0 : Int32), .int cl, .int nn])), (h1, .inl (ct.1, 3185, .inr (.inl ro))), (h2, .inr (1, [.long ra, .long rb, .long rc, .long rx, .long ry, .long rz, .int rs]))] ++ wt) := hD
    refine lv_iconst (v := (1 : Int32)) hx hb d_T_fill_32 (by decide) ?_
    refine lv_istore (lv' := [(4, .int (1 : Int32)), (0, .ref h0), (1, .int cl), (2, .ref h3), (3, .int nn)]) hx hb d_T_fill_33 hl (by decide) rfl (fun ls hl => ?_)
    have L_44 : ∀ (n : Nat) (lp_ : Int32) (lr : Int32) (ro : Nat → Int64) (sz : Int32) (fc_ : Int32) (fn_ : Int32) (ra : Int64) (rb : Int64) (rc : Int64) (rx : Int64) (ry : Int64) (rz : Int64) (rs : Int32) (lp_' : Int32) (lr' : Int32) (ro' : Nat → Int64) (sz' : Int32) (fc_' : Int32) (fn_' : Int32) (ra' : Int64) (rb' : Int64) (rc' : Int64) (rx' : Int64) (ry' : Int64) (rz' : Int64) (rs' : Int32), lp_T_fill_44 fa fb fc fd fe ff cl nn n lp_ lr ro sz fc_ fn_ ra rb rc rx ry rz rs = some (lp_', lr', ro', sz', fc_', fn_', ra', rb', rc', rx', ry', rz', rs') → ∀ (H : Heap) (locs : List Loc), va_P D classes ([(h0, .inr (2, [.ref h2, .ref h1, .int sz, .int fc_, .int fn_])), (h1, .inl (ct.1, 3185, .inr (.inl ro))), (h2, .inr (1, [.long ra, .long rb, .long rc, .long rx, .long ry, .long rz, .int rs]))] ++ wt) H → va_D A ([(h0, .inr (2, [.ref h2, .ref h1, .int sz, .int fc_, .int fn_])), (h1, .inl (ct.1, 3185, .inr (.inl ro))), (h2, .inr (1, [.long ra, .long rb, .long rc, .long rx, .long ry, .long rz, .int rs]))] ++ wt) → va_S A s.heap H locs → ∀ (ls : Array Slot), lv_has ls 6 [(4, .int lp_), (5, .int lr), (0, .ref h0), (1, .int cl), (2, .ref h3), (3, .int nn)] → (∀ (H : Heap) (locs : List Loc), va_P D classes ([(h0, .inr (2, [.ref h2, .ref h1, .int sz', .int fc_', .int fn_'])), (h1, .inl (ct.1, 3185, .inr (.inl ro'))), (h2, .inr (1, [.long ra', .long rb', .long rc', .long rx', .long ry', .long rz', .int rs']))] ++ wt) H → va_D A ([(h0, .inr (2, [.ref h2, .ref h1, .int sz', .int fc_', .int fn_'])), (h1, .inl (ct.1, 3185, .inr (.inl ro'))), (h2, .inr (1, [.long ra', .long rb', .long rc', .long rx', .long ry', .long rz', .int rs']))] ++ wt) → va_S A s.heap H locs → ∀ (ls : Array Slot), lv_has ls 6 [(4, .int lp_'), (5, .int lr'), (0, .ref h0), (1, .int cl), (2, .ref h3), (3, .int nn)] → W p l e (headSpec w_T_fill rm_T_fill).room s m ([.ref h0, .int cl, .ref h3, .int nn] : List Value).toArray below meth c H locs 0 0 (MQ below (va_Qv (fun u => u = r0) (fun (u : (Nat → Int64) × Int32 × Int32 × Int32 × Int64 × Int64 × Int64 × Int64 × Int64 × Int64 × Int32) t => match u with | (ro', sz', fc_', fn_', ra', rb', rc', rx', ry', rz', rs') => va_P D classes ([(h0, .inr (2, [.ref h2, .ref h1, .int sz', .int fc_', .int fn_'])), (h1, .inl (ct.1, 3185, .inr (.inl ro'))), (h2, .inr (1, [.long ra', .long rb', .long rc', .long rx', .long ry', .long rz', .int rs']))] ++ wt) t.heap ∧ va_D A ([(h0, .inr (2, [.ref h2, .ref h1, .int sz', .int fc_', .int fn_'])), (h1, .inl (ct.1, 3185, .inr (.inl ro'))), (h2, .inr (1, [.long ra', .long rb', .long rc', .long rx', .long ry', .long rz', .int rs']))] ++ wt)) A) ([.ref h0, .int cl, .ref h3, .int nn] : List Value).toArray s 0 0 A) (F0 m 85 ls [])) → W p l e (headSpec w_T_fill rm_T_fill).room s m ([.ref h0, .int cl, .ref h3, .int nn] : List Value).toArray below meth c H locs 0 0 (MQ below (va_Qv (fun u => u = r0) (fun (u : (Nat → Int64) × Int32 × Int32 × Int32 × Int64 × Int64 × Int64 × Int64 × Int64 × Int64 × Int32) t => match u with | (ro', sz', fc_', fn_', ra', rb', rc', rx', ry', rz', rs') => va_P D classes ([(h0, .inr (2, [.ref h2, .ref h1, .int sz', .int fc_', .int fn_'])), (h1, .inl (ct.1, 3185, .inr (.inl ro'))), (h2, .inr (1, [.long ra', .long rb', .long rc', .long rx', .long ry', .long rz', .int rs']))] ++ wt) t.heap ∧ va_D A ([(h0, .inr (2, [.ref h2, .ref h1, .int sz', .int fc_', .int fn_'])), (h1, .inl (ct.1, 3185, .inr (.inl ro'))), (h2, .inr (1, [.long ra', .long rb', .long rc', .long rx', .long ry', .long rz', .int rs']))] ++ wt)) A) ([.ref h0, .int cl, .ref h3, .int nn] : List Value).toArray s 0 0 A) (F0 m 44 ls []) := by
      intro n
      induction n with
      | zero =>
        intro lp_ lr ro sz fc_ fn_ ra rb rc rx ry rz rs lp_' lr' ro' sz' fc_' fn_' ra' rb' rc' rx' ry' rz' rs' h
        rw [lp_T_fill_44] at h
        cases h
      | succ n ih =>
        intro lp_ lr ro sz fc_ fn_ ra rb rc rx ry rz rs lp_' lr' ro' sz' fc_' fn_' ra' rb' rc' rx' ry' rz' rs' h H locs hP hD hS ls hl K
        rw [lp_T_fill_44] at h
        refine lv_iload hx hb d_T_fill_44 (lv_at hl 0 rfl) ?_
        refine lv_iload hx hb d_T_fill_46 (lv_at hl 1 rfl) ?_
        refine lv_imul hx hb d_T_fill_48 ?_
        refine lv_iload_n hx hb d_T_fill_49 rfl (lv_at hl 5 rfl) ?_
        refine lv_icmp_gt (tgt := 85) hx hb d_T_fill_50 (by decide) (fun c_3 => ?_) (fun c_3 => ?_)
        · rw [if_pos c_3] at h
          cases h
          exact K _ _ hP hD hS _ (lv_sub hl [0, 1, 2, 3, 4, 5] rfl)
        · rw [if_neg c_3] at h
          refine lv_iload_n hx hb d_T_fill_53 rfl (lv_at hl 5 rfl) ?_
          refine lv_iload hx hb d_T_fill_54 (lv_at hl 0 rfl) ?_
          refine lv_iload hx hb d_T_fill_56 (lv_at hl 1 rfl) ?_
          refine lv_imul hx hb d_T_fill_58 ?_
          by_cases nz_4 : lp_ * lr = 0
          · rw [if_pos nz_4] at h; cases h
          rw [if_neg nz_4] at h
          refine lv_irem hx hb d_T_fill_59 nz_4 ?_
          refine lv_if_ne (tgt := 79) hx hb d_T_fill_60 (by decide) (fun c_5 => ?_) (fun c_5 => ?_)
          · rw [if_neg c_5] at h
            refine lv_iinc (v := lr + (1 : Int32)) (lv' := [(5, .int (lr + (1 : Int32))), (4, .int lp_), (0, .ref h0), (1, .int cl), (2, .ref h3), (3, .int nn)]) hx hb d_T_fill_79 hl (k := 1) rfl rfl (by decide) rfl (fun ls hl => ?_)
            refine lv_goto (tgt := 44) hx hb d_T_fill_82 (by decide) ?_
            exact ih lp_ (lr + (1 : Int32)) ro sz fc_ fn_ ra rb rc rx ry rz rs _ _ _ _ _ _ _ _ _ _ _ _ _ h H locs hP hD hS ls (lv_sub hl [1, 0, 2, 3, 4, 5] rfl) K
          · rw [if_pos c_5] at h
            refine lv_aload_n hx hb d_T_fill_63 rfl (lv_at hl 2 rfl) ?_
            refine lv_aload_n hx hb d_T_fill_64 rfl (lv_at hl 4 rfl) ?_
            refine lv_iload hx hb d_T_fill_65 (lv_at hl 0 rfl) ?_
            refine lv_iload hx hb d_T_fill_67 (lv_at hl 1 rfl) ?_
            refine lv_iload_n hx hb d_T_fill_69 rfl (lv_at hl 5 rfl) ?_
            refine lv_iload hx hb d_T_fill_70 (lv_at hl 0 rfl) ?_
            refine lv_iload hx hb d_T_fill_72 (lv_at hl 1 rfl) ?_
            refine lv_imul hx hb d_T_fill_74 ?_
            by_cases nz_6 : lp_ * lr = 0
            · rw [if_pos nz_6] at h; cases h
            rw [if_neg nz_6] at h
            refine lv_idiv hx hb d_T_fill_75 nz_6 ?_
            rcases e_16 : f_T_addAll sz ro ra rb rc rx ry rz rs fa fb fc fd fe ff lp_ lr (nn / (lp_ * lr)) with _ | ⟨ro_7, sz_8, ra_9, rb_10, rc_11, rx_12, ry_13, rz_14, rs_15⟩
            · rw [e_16] at h; cases h
            rw [e_16, Option.bind_some] at h
            try dsimp only at h
            refine va_callv (va_runV (As := [.ref h3, .int lp_, .int lr, .int (nn / (lp_ * lr))]) (rest := []) ⟨hx, hb, hml, hown, htg⟩ (c_T_addAll l D ct A ([] ++ wt) k3 h0 h2 h1 sz fc_ fn_ ro ra rb rc rx ry rz rs h3 fa fb fc fd fe ff lp_ lr (nn / (lp_ * lr)) hk3 _ e_16) (cwV 4 htg (giV tm_319 tm_321 tm_12 tm_33 g_T_addAll) rfl rfl rfl (by decide +kernel) ⟨Nat.le_of_ble_eq_true rfl, Nat.le_of_ble_eq_true rfl⟩) (preVM hA hS hP hD hKK (va_recv hK hP (ci := 2) (q0 := 0) rfl rfl)) rfl rfl hl.1 rfl (lv_room (Nat.le_of_ble_eq_true rfl)) d_T_fill_76 ⟨Nat.le_of_ble_eq_true rfl, Nat.le_of_ble_eq_true rfl⟩) hS (fun q _ h9 => h9) (fun q h9 => h9) (fun u9 t9 H locs ht9 hvm9 hw9 hB9 hz9 hk9 hS => ?_)
            rw [hw9] at hB9
            obtain ⟨hP, hD⟩ := hB9
            rw [ht9] at hP
            have hP : va_P D classes ([(h0, .inr (2, [.ref h2, .ref h1, .int sz_8, .int fc_, .int fn_])), (h1, .inl (ct.1, 3185, .inr (.inl ro_7))), (h2, .inr (1, [.long ra_9, .long rb_10, .long rc_11, .long rx_12, .long ry_13, .long rz_14, .int rs_15]))] ++ wt) H := hP
            have hD : va_D A ([(h0, .inr (2, [.ref h2, .ref h1, .int sz_8, .int fc_, .int fn_])), (h1, .inl (ct.1, 3185, .inr (.inl ro_7))), (h2, .inr (1, [.long ra_9, .long rb_10, .long rc_11, .long rx_12, .long ry_13, .long rz_14, .int rs_15]))] ++ wt) := hD
            refine lv_iinc (v := lr + (1 : Int32)) (lv' := [(5, .int (lr + (1 : Int32))), (4, .int lp_), (0, .ref h0), (1, .int cl), (2, .ref h3), (3, .int nn)]) hx hb d_T_fill_79 hl (k := 1) rfl rfl (by decide) rfl (fun ls hl => ?_)
            refine lv_goto (tgt := 44) hx hb d_T_fill_82 (by decide) ?_
            exact ih lp_ (lr + (1 : Int32)) ro_7 sz_8 fc_ fn_ ra_9 rb_10 rc_11 rx_12 ry_13 rz_14 rs_15 _ _ _ _ _ _ _ _ _ _ _ _ _ h H locs hP hD hS ls (lv_sub hl [1, 0, 2, 3, 4, 5] rfl) K
    have L_35 : ∀ (n : Nat) (lp_ : Int32) (ro : Nat → Int64) (sz : Int32) (fc_ : Int32) (fn_ : Int32) (ra : Int64) (rb : Int64) (rc : Int64) (rx : Int64) (ry : Int64) (rz : Int64) (rs : Int32) , lp_T_fill_35 fa fb fc fd fe ff cl nn n lp_ ro sz fc_ fn_ ra rb rc rx ry rz rs = some r0 → ∀ (H : Heap) (locs : List Loc), va_P D classes ([(h0, .inr (2, [.ref h2, .ref h1, .int sz, .int fc_, .int fn_])), (h1, .inl (ct.1, 3185, .inr (.inl ro))), (h2, .inr (1, [.long ra, .long rb, .long rc, .long rx, .long ry, .long rz, .int rs]))] ++ wt) H → va_D A ([(h0, .inr (2, [.ref h2, .ref h1, .int sz, .int fc_, .int fn_])), (h1, .inl (ct.1, 3185, .inr (.inl ro))), (h2, .inr (1, [.long ra, .long rb, .long rc, .long rx, .long ry, .long rz, .int rs]))] ++ wt) → va_S A s.heap H locs → ∀ (ls : Array Slot), lv_has ls 6 [(4, .int lp_), (0, .ref h0), (1, .int cl), (2, .ref h3), (3, .int nn)] → W p l e (headSpec w_T_fill rm_T_fill).room s m ([.ref h0, .int cl, .ref h3, .int nn] : List Value).toArray below meth c H locs 0 0 (MQ below (va_Qv (fun u => u = r0) (fun (u : (Nat → Int64) × Int32 × Int32 × Int32 × Int64 × Int64 × Int64 × Int64 × Int64 × Int64 × Int32) t => match u with | (ro', sz', fc_', fn_', ra', rb', rc', rx', ry', rz', rs') => va_P D classes ([(h0, .inr (2, [.ref h2, .ref h1, .int sz', .int fc_', .int fn_'])), (h1, .inl (ct.1, 3185, .inr (.inl ro'))), (h2, .inr (1, [.long ra', .long rb', .long rc', .long rx', .long ry', .long rz', .int rs']))] ++ wt) t.heap ∧ va_D A ([(h0, .inr (2, [.ref h2, .ref h1, .int sz', .int fc_', .int fn_'])), (h1, .inl (ct.1, 3185, .inr (.inl ro'))), (h2, .inr (1, [.long ra', .long rb', .long rc', .long rx', .long ry', .long rz', .int rs']))] ++ wt)) A) ([.ref h0, .int cl, .ref h3, .int nn] : List Value).toArray s 0 0 A) (F0 m 35 ls []) := by
      intro n
      induction n with
      | zero =>
        intro lp_ ro sz fc_ fn_ ra rb rc rx ry rz rs  h
        rw [lp_T_fill_35] at h
        cases h
      | succ n ih =>
        intro lp_ ro sz fc_ fn_ ra rb rc rx ry rz rs  h H locs hP hD hS ls hl
        rw [lp_T_fill_35] at h
        refine lv_iload hx hb d_T_fill_35 (lv_at hl 0 rfl) ?_
        refine lv_iload_n hx hb d_T_fill_37 rfl (lv_at hl 4 rfl) ?_
        refine lv_icmp_gt (tgt := 91) hx hb d_T_fill_38 (by decide) (fun c_2 => ?_) (fun c_2 => ?_)
        · rw [if_pos c_2] at h
          exact W.vret hx hb hr (fun t ht hW => ⟨⟨(ro, sz, fc_, fn_, ra, rb, rc, rx, ry, rz, rs), rfl, (Option.some.inj h), by rw [ht]; exact hP, hD⟩, hS.F ht⟩) hS.2.2 d_T_fill_91
        · rw [if_neg c_2] at h
          refine lv_iconst (v := (1 : Int32)) hx hb d_T_fill_41 (by decide) ?_
          refine lv_istore (lv' := [(5, .int (1 : Int32)), (4, .int lp_), (0, .ref h0), (1, .int cl), (2, .ref h3), (3, .int nn)]) hx hb d_T_fill_42 hl (by decide) rfl (fun ls hl => ?_)
          rcases e_31 : lp_T_fill_44 fa fb fc fd fe ff cl nn 20 lp_ (1 : Int32) ro sz fc_ fn_ ra rb rc rx ry rz rs with _ | ⟨lp__18, lr_19, ro_20, sz_21, fc__22, fn__23, ra_24, rb_25, rc_26, rx_27, ry_28, rz_29, rs_30⟩
          · rw [e_31] at h; cases h
          rw [e_31, Option.bind_some] at h
          try dsimp only at h
          refine L_44 20 lp_ (1 : Int32) ro sz fc_ fn_ ra rb rc rx ry rz rs lp__18 lr_19 ro_20 sz_21 fc__22 fn__23 ra_24 rb_25 rc_26 rx_27 ry_28 rz_29 rs_30 e_31 _ _ hP hD hS ls (lv_sub hl [1, 0, 2, 3, 4, 5] rfl) (fun H locs hP hD hS ls hl => ?_)
          refine lv_iinc (v := lp__18 + (1 : Int32)) (lv' := [(4, .int (lp__18 + (1 : Int32))), (5, .int lr_19), (0, .ref h0), (1, .int cl), (2, .ref h3), (3, .int nn)]) hx hb d_T_fill_85 hl (k := 0) rfl rfl (by decide) rfl (fun ls hl => ?_)
          refine lv_goto (tgt := 35) hx hb d_T_fill_88 (by decide) ?_
          exact ih (lp__18 + (1 : Int32)) ro_20 sz_21 fc__22 fn__23 ra_24 rb_25 rc_26 rx_27 ry_28 rz_29 rs_30 h H locs hP hD hS ls (lv_sub hl [0, 2, 3, 4, 5] rfl)
    exact L_35 20 (1 : Int32) ro (0 : Int32) cl nn ra rb rc rx ry rz rs h _ _ hP hD hS ls (lv_sub hl [0, 1, 2, 3, 4] rfl)
  · rw [if_pos c_1] at h
    refine lv_aload_n hx hb d_T_fill_8 rfl (lv_at hl 0 rfl) ?_
    refine va_get (D := D) (ci := 2) (v := .int fn_) (C := R_Table) (T := F_Table) (N := 5) hx hb htg i_Table hown hK hP 0 rfl rfl 4 (by decide) (htg _ tm_88) (fun _ h9 => h9) rfl d_T_fill_9 ?_
    refine lv_iload_n hx hb d_T_fill_12 rfl (lv_at hl 3 rfl) ?_
    refine lv_icmp_ne (tgt := 17) hx hb d_T_fill_13 (by decide) (fun c_33 => ?_) (fun c_33 => ?_)
    · rw [if_neg c_33] at h
      refine lv_aload_n hx hb d_T_fill_17 rfl (lv_at hl 0 rfl) ?_
      refine lv_iload_n hx hb d_T_fill_18 rfl (lv_at hl 1 rfl) ?_
      refine va_put (D := D) (ci := 2) (v := .int cl) (ty := .int) (C := R_Table) (T := F_Table) (N := 5) hx hb htg i_Table t_Table t_Table_ok n_Table hown hK hP hD hS 0 rfl rfl 3 (by decide) (htg _ tm_87) (fun _ h9 => h9) rfl (by decide +kernel) rfl rfl (Nat.le_of_ble_eq_true rfl) d_T_fill_19 (fun H locs hP hD hS => ?_)
      have hP : va_P D classes ([(h0, .inr (2, [.ref h2, .ref h1, .int sz, .int cl, .int fn_])), (h1, .inl (ct.1, 3185, .inr (.inl ro))), (h2, .inr (1, [.long ra, .long rb, .long rc, .long rx, .long ry, .long rz, .int rs]))] ++ wt) H := hP
      have hD : va_D A ([(h0, .inr (2, [.ref h2, .ref h1, .int sz, .int cl, .int fn_])), (h1, .inl (ct.1, 3185, .inr (.inl ro))), (h2, .inr (1, [.long ra, .long rb, .long rc, .long rx, .long ry, .long rz, .int rs]))] ++ wt) := hD
      refine lv_aload_n hx hb d_T_fill_22 rfl (lv_at hl 0 rfl) ?_
      refine lv_iload_n hx hb d_T_fill_23 rfl (lv_at hl 3 rfl) ?_
      refine va_put (D := D) (ci := 2) (v := .int nn) (ty := .int) (C := R_Table) (T := F_Table) (N := 5) hx hb htg i_Table t_Table t_Table_ok n_Table hown hK hP hD hS 0 rfl rfl 4 (by decide) (htg _ tm_88) (fun _ h9 => h9) rfl (by decide +kernel) rfl rfl (Nat.le_of_ble_eq_true rfl) d_T_fill_24 (fun H locs hP hD hS => ?_)
      have hP : va_P D classes ([(h0, .inr (2, [.ref h2, .ref h1, .int sz, .int cl, .int nn])), (h1, .inl (ct.1, 3185, .inr (.inl ro))), (h2, .inr (1, [.long ra, .long rb, .long rc, .long rx, .long ry, .long rz, .int rs]))] ++ wt) H := hP
      have hD : va_D A ([(h0, .inr (2, [.ref h2, .ref h1, .int sz, .int cl, .int nn])), (h1, .inl (ct.1, 3185, .inr (.inl ro))), (h2, .inr (1, [.long ra, .long rb, .long rc, .long rx, .long ry, .long rz, .int rs]))] ++ wt) := hD
      refine lv_aload_n hx hb d_T_fill_27 rfl (lv_at hl 0 rfl) ?_
      refine lv_iconst (v := (0 : Int32)) hx hb d_T_fill_28 (by decide) ?_
      refine va_put (D := D) (ci := 2) (v := .int (0 : Int32)) (ty := .int) (C := R_Table) (T := F_Table) (N := 5) hx hb htg i_Table t_Table t_Table_ok n_Table hown hK hP hD hS 0 rfl rfl 2 (by decide) (htg _ tm_86) (fun _ h9 => h9) rfl (by decide +kernel) rfl rfl (Nat.le_of_ble_eq_true rfl) d_T_fill_29 (fun H locs hP hD hS => ?_)
      have hP : va_P D classes ([(h0, .inr (2, [.ref h2, .ref h1, .int (0 : Int32), .int cl, .int nn])), (h1, .inl (ct.1, 3185, .inr (.inl ro))), (h2, .inr (1, [.long ra, .long rb, .long rc, .long rx, .long ry, .long rz, .int rs]))] ++ wt) H := hP
      have hD : va_D A ([(h0, .inr (2, [.ref h2, .ref h1, .int (0 : Int32), .int cl, .int nn])), (h1, .inl (ct.1, 3185, .inr (.inl ro))), (h2, .inr (1, [.long ra, .long rb, .long rc, .long rx, .long ry, .long rz, .int rs]))] ++ wt) := hD
      refine lv_iconst (v := (1 : Int32)) hx hb d_T_fill_32 (by decide) ?_
      refine lv_istore (lv' := [(4, .int (1 : Int32)), (0, .ref h0), (1, .int cl), (2, .ref h3), (3, .int nn)]) hx hb d_T_fill_33 hl (by decide) rfl (fun ls hl => ?_)
      have L_44 : ∀ (n : Nat) (lp_ : Int32) (lr : Int32) (ro : Nat → Int64) (sz : Int32) (fc_ : Int32) (fn_ : Int32) (ra : Int64) (rb : Int64) (rc : Int64) (rx : Int64) (ry : Int64) (rz : Int64) (rs : Int32) (lp_' : Int32) (lr' : Int32) (ro' : Nat → Int64) (sz' : Int32) (fc_' : Int32) (fn_' : Int32) (ra' : Int64) (rb' : Int64) (rc' : Int64) (rx' : Int64) (ry' : Int64) (rz' : Int64) (rs' : Int32), lp_T_fill_44 fa fb fc fd fe ff cl nn n lp_ lr ro sz fc_ fn_ ra rb rc rx ry rz rs = some (lp_', lr', ro', sz', fc_', fn_', ra', rb', rc', rx', ry', rz', rs') → ∀ (H : Heap) (locs : List Loc), va_P D classes ([(h0, .inr (2, [.ref h2, .ref h1, .int sz, .int fc_, .int fn_])), (h1, .inl (ct.1, 3185, .inr (.inl ro))), (h2, .inr (1, [.long ra, .long rb, .long rc, .long rx, .long ry, .long rz, .int rs]))] ++ wt) H → va_D A ([(h0, .inr (2, [.ref h2, .ref h1, .int sz, .int fc_, .int fn_])), (h1, .inl (ct.1, 3185, .inr (.inl ro))), (h2, .inr (1, [.long ra, .long rb, .long rc, .long rx, .long ry, .long rz, .int rs]))] ++ wt) → va_S A s.heap H locs → ∀ (ls : Array Slot), lv_has ls 6 [(4, .int lp_), (5, .int lr), (0, .ref h0), (1, .int cl), (2, .ref h3), (3, .int nn)] → (∀ (H : Heap) (locs : List Loc), va_P D classes ([(h0, .inr (2, [.ref h2, .ref h1, .int sz', .int fc_', .int fn_'])), (h1, .inl (ct.1, 3185, .inr (.inl ro'))), (h2, .inr (1, [.long ra', .long rb', .long rc', .long rx', .long ry', .long rz', .int rs']))] ++ wt) H → va_D A ([(h0, .inr (2, [.ref h2, .ref h1, .int sz', .int fc_', .int fn_'])), (h1, .inl (ct.1, 3185, .inr (.inl ro'))), (h2, .inr (1, [.long ra', .long rb', .long rc', .long rx', .long ry', .long rz', .int rs']))] ++ wt) → va_S A s.heap H locs → ∀ (ls : Array Slot), lv_has ls 6 [(4, .int lp_'), (5, .int lr'), (0, .ref h0), (1, .int cl), (2, .ref h3), (3, .int nn)] → W p l e (headSpec w_T_fill rm_T_fill).room s m ([.ref h0, .int cl, .ref h3, .int nn] : List Value).toArray below meth c H locs 0 0 (MQ below (va_Qv (fun u => u = r0) (fun (u : (Nat → Int64) × Int32 × Int32 × Int32 × Int64 × Int64 × Int64 × Int64 × Int64 × Int64 × Int32) t => match u with | (ro', sz', fc_', fn_', ra', rb', rc', rx', ry', rz', rs') => va_P D classes ([(h0, .inr (2, [.ref h2, .ref h1, .int sz', .int fc_', .int fn_'])), (h1, .inl (ct.1, 3185, .inr (.inl ro'))), (h2, .inr (1, [.long ra', .long rb', .long rc', .long rx', .long ry', .long rz', .int rs']))] ++ wt) t.heap ∧ va_D A ([(h0, .inr (2, [.ref h2, .ref h1, .int sz', .int fc_', .int fn_'])), (h1, .inl (ct.1, 3185, .inr (.inl ro'))), (h2, .inr (1, [.long ra', .long rb', .long rc', .long rx', .long ry', .long rz', .int rs']))] ++ wt)) A) ([.ref h0, .int cl, .ref h3, .int nn] : List Value).toArray s 0 0 A) (F0 m 85 ls [])) → W p l e (headSpec w_T_fill rm_T_fill).room s m ([.ref h0, .int cl, .ref h3, .int nn] : List Value).toArray below meth c H locs 0 0 (MQ below (va_Qv (fun u => u = r0) (fun (u : (Nat → Int64) × Int32 × Int32 × Int32 × Int64 × Int64 × Int64 × Int64 × Int64 × Int64 × Int32) t => match u with | (ro', sz', fc_', fn_', ra', rb', rc', rx', ry', rz', rs') => va_P D classes ([(h0, .inr (2, [.ref h2, .ref h1, .int sz', .int fc_', .int fn_'])), (h1, .inl (ct.1, 3185, .inr (.inl ro'))), (h2, .inr (1, [.long ra', .long rb', .long rc', .long rx', .long ry', .long rz', .int rs']))] ++ wt) t.heap ∧ va_D A ([(h0, .inr (2, [.ref h2, .ref h1, .int sz', .int fc_', .int fn_'])), (h1, .inl (ct.1, 3185, .inr (.inl ro'))), (h2, .inr (1, [.long ra', .long rb', .long rc', .long rx', .long ry', .long rz', .int rs']))] ++ wt)) A) ([.ref h0, .int cl, .ref h3, .int nn] : List Value).toArray s 0 0 A) (F0 m 44 ls []) := by
        intro n
        induction n with
        | zero =>
          intro lp_ lr ro sz fc_ fn_ ra rb rc rx ry rz rs lp_' lr' ro' sz' fc_' fn_' ra' rb' rc' rx' ry' rz' rs' h
          rw [lp_T_fill_44] at h
          cases h
        | succ n ih =>
          intro lp_ lr ro sz fc_ fn_ ra rb rc rx ry rz rs lp_' lr' ro' sz' fc_' fn_' ra' rb' rc' rx' ry' rz' rs' h H locs hP hD hS ls hl K
          rw [lp_T_fill_44] at h
          refine lv_iload hx hb d_T_fill_44 (lv_at hl 0 rfl) ?_
          refine lv_iload hx hb d_T_fill_46 (lv_at hl 1 rfl) ?_
          refine lv_imul hx hb d_T_fill_48 ?_
          refine lv_iload_n hx hb d_T_fill_49 rfl (lv_at hl 5 rfl) ?_
          refine lv_icmp_gt (tgt := 85) hx hb d_T_fill_50 (by decide) (fun c_35 => ?_) (fun c_35 => ?_)
          · rw [if_pos c_35] at h
            cases h
            exact K _ _ hP hD hS _ (lv_sub hl [0, 1, 2, 3, 4, 5] rfl)
          · rw [if_neg c_35] at h
            refine lv_iload_n hx hb d_T_fill_53 rfl (lv_at hl 5 rfl) ?_
            refine lv_iload hx hb d_T_fill_54 (lv_at hl 0 rfl) ?_
            refine lv_iload hx hb d_T_fill_56 (lv_at hl 1 rfl) ?_
            refine lv_imul hx hb d_T_fill_58 ?_
            by_cases nz_36 : lp_ * lr = 0
            · rw [if_pos nz_36] at h; cases h
            rw [if_neg nz_36] at h
            refine lv_irem hx hb d_T_fill_59 nz_36 ?_
            refine lv_if_ne (tgt := 79) hx hb d_T_fill_60 (by decide) (fun c_37 => ?_) (fun c_37 => ?_)
            · rw [if_neg c_37] at h
              refine lv_iinc (v := lr + (1 : Int32)) (lv' := [(5, .int (lr + (1 : Int32))), (4, .int lp_), (0, .ref h0), (1, .int cl), (2, .ref h3), (3, .int nn)]) hx hb d_T_fill_79 hl (k := 1) rfl rfl (by decide) rfl (fun ls hl => ?_)
              refine lv_goto (tgt := 44) hx hb d_T_fill_82 (by decide) ?_
              exact ih lp_ (lr + (1 : Int32)) ro sz fc_ fn_ ra rb rc rx ry rz rs _ _ _ _ _ _ _ _ _ _ _ _ _ h H locs hP hD hS ls (lv_sub hl [1, 0, 2, 3, 4, 5] rfl) K
            · rw [if_pos c_37] at h
              refine lv_aload_n hx hb d_T_fill_63 rfl (lv_at hl 2 rfl) ?_
              refine lv_aload_n hx hb d_T_fill_64 rfl (lv_at hl 4 rfl) ?_
              refine lv_iload hx hb d_T_fill_65 (lv_at hl 0 rfl) ?_
              refine lv_iload hx hb d_T_fill_67 (lv_at hl 1 rfl) ?_
              refine lv_iload_n hx hb d_T_fill_69 rfl (lv_at hl 5 rfl) ?_
              refine lv_iload hx hb d_T_fill_70 (lv_at hl 0 rfl) ?_
              refine lv_iload hx hb d_T_fill_72 (lv_at hl 1 rfl) ?_
              refine lv_imul hx hb d_T_fill_74 ?_
              by_cases nz_38 : lp_ * lr = 0
              · rw [if_pos nz_38] at h; cases h
              rw [if_neg nz_38] at h
              refine lv_idiv hx hb d_T_fill_75 nz_38 ?_
              rcases e_48 : f_T_addAll sz ro ra rb rc rx ry rz rs fa fb fc fd fe ff lp_ lr (nn / (lp_ * lr)) with _ | ⟨ro_39, sz_40, ra_41, rb_42, rc_43, rx_44, ry_45, rz_46, rs_47⟩
              · rw [e_48] at h; cases h
              rw [e_48, Option.bind_some] at h
              try dsimp only at h
              refine va_callv (va_runV (As := [.ref h3, .int lp_, .int lr, .int (nn / (lp_ * lr))]) (rest := []) ⟨hx, hb, hml, hown, htg⟩ (c_T_addAll l D ct A ([] ++ wt) k3 h0 h2 h1 sz fc_ fn_ ro ra rb rc rx ry rz rs h3 fa fb fc fd fe ff lp_ lr (nn / (lp_ * lr)) hk3 _ e_48) (cwV 4 htg (giV tm_319 tm_321 tm_12 tm_33 g_T_addAll) rfl rfl rfl (by decide +kernel) ⟨Nat.le_of_ble_eq_true rfl, Nat.le_of_ble_eq_true rfl⟩) (preVM hA hS hP hD hKK (va_recv hK hP (ci := 2) (q0 := 0) rfl rfl)) rfl rfl hl.1 rfl (lv_room (Nat.le_of_ble_eq_true rfl)) d_T_fill_76 ⟨Nat.le_of_ble_eq_true rfl, Nat.le_of_ble_eq_true rfl⟩) hS (fun q _ h9 => h9) (fun q h9 => h9) (fun u9 t9 H locs ht9 hvm9 hw9 hB9 hz9 hk9 hS => ?_)
              rw [hw9] at hB9
              obtain ⟨hP, hD⟩ := hB9
              rw [ht9] at hP
              have hP : va_P D classes ([(h0, .inr (2, [.ref h2, .ref h1, .int sz_40, .int fc_, .int fn_])), (h1, .inl (ct.1, 3185, .inr (.inl ro_39))), (h2, .inr (1, [.long ra_41, .long rb_42, .long rc_43, .long rx_44, .long ry_45, .long rz_46, .int rs_47]))] ++ wt) H := hP
              have hD : va_D A ([(h0, .inr (2, [.ref h2, .ref h1, .int sz_40, .int fc_, .int fn_])), (h1, .inl (ct.1, 3185, .inr (.inl ro_39))), (h2, .inr (1, [.long ra_41, .long rb_42, .long rc_43, .long rx_44, .long ry_45, .long rz_46, .int rs_47]))] ++ wt) := hD
              refine lv_iinc (v := lr + (1 : Int32)) (lv' := [(5, .int (lr + (1 : Int32))), (4, .int lp_), (0, .ref h0), (1, .int cl), (2, .ref h3), (3, .int nn)]) hx hb d_T_fill_79 hl (k := 1) rfl rfl (by decide) rfl (fun ls hl => ?_)
              refine lv_goto (tgt := 44) hx hb d_T_fill_82 (by decide) ?_
              exact ih lp_ (lr + (1 : Int32)) ro_39 sz_40 fc_ fn_ ra_41 rb_42 rc_43 rx_44 ry_45 rz_46 rs_47 _ _ _ _ _ _ _ _ _ _ _ _ _ h H locs hP hD hS ls (lv_sub hl [1, 0, 2, 3, 4, 5] rfl) K
      have L_35 : ∀ (n : Nat) (lp_ : Int32) (ro : Nat → Int64) (sz : Int32) (fc_ : Int32) (fn_ : Int32) (ra : Int64) (rb : Int64) (rc : Int64) (rx : Int64) (ry : Int64) (rz : Int64) (rs : Int32) , lp_T_fill_35 fa fb fc fd fe ff cl nn n lp_ ro sz fc_ fn_ ra rb rc rx ry rz rs = some r0 → ∀ (H : Heap) (locs : List Loc), va_P D classes ([(h0, .inr (2, [.ref h2, .ref h1, .int sz, .int fc_, .int fn_])), (h1, .inl (ct.1, 3185, .inr (.inl ro))), (h2, .inr (1, [.long ra, .long rb, .long rc, .long rx, .long ry, .long rz, .int rs]))] ++ wt) H → va_D A ([(h0, .inr (2, [.ref h2, .ref h1, .int sz, .int fc_, .int fn_])), (h1, .inl (ct.1, 3185, .inr (.inl ro))), (h2, .inr (1, [.long ra, .long rb, .long rc, .long rx, .long ry, .long rz, .int rs]))] ++ wt) → va_S A s.heap H locs → ∀ (ls : Array Slot), lv_has ls 6 [(4, .int lp_), (0, .ref h0), (1, .int cl), (2, .ref h3), (3, .int nn)] → W p l e (headSpec w_T_fill rm_T_fill).room s m ([.ref h0, .int cl, .ref h3, .int nn] : List Value).toArray below meth c H locs 0 0 (MQ below (va_Qv (fun u => u = r0) (fun (u : (Nat → Int64) × Int32 × Int32 × Int32 × Int64 × Int64 × Int64 × Int64 × Int64 × Int64 × Int32) t => match u with | (ro', sz', fc_', fn_', ra', rb', rc', rx', ry', rz', rs') => va_P D classes ([(h0, .inr (2, [.ref h2, .ref h1, .int sz', .int fc_', .int fn_'])), (h1, .inl (ct.1, 3185, .inr (.inl ro'))), (h2, .inr (1, [.long ra', .long rb', .long rc', .long rx', .long ry', .long rz', .int rs']))] ++ wt) t.heap ∧ va_D A ([(h0, .inr (2, [.ref h2, .ref h1, .int sz', .int fc_', .int fn_'])), (h1, .inl (ct.1, 3185, .inr (.inl ro'))), (h2, .inr (1, [.long ra', .long rb', .long rc', .long rx', .long ry', .long rz', .int rs']))] ++ wt)) A) ([.ref h0, .int cl, .ref h3, .int nn] : List Value).toArray s 0 0 A) (F0 m 35 ls []) := by
        intro n
        induction n with
        | zero =>
          intro lp_ ro sz fc_ fn_ ra rb rc rx ry rz rs  h
          rw [lp_T_fill_35] at h
          cases h
        | succ n ih =>
          intro lp_ ro sz fc_ fn_ ra rb rc rx ry rz rs  h H locs hP hD hS ls hl
          rw [lp_T_fill_35] at h
          refine lv_iload hx hb d_T_fill_35 (lv_at hl 0 rfl) ?_
          refine lv_iload_n hx hb d_T_fill_37 rfl (lv_at hl 4 rfl) ?_
          refine lv_icmp_gt (tgt := 91) hx hb d_T_fill_38 (by decide) (fun c_34 => ?_) (fun c_34 => ?_)
          · rw [if_pos c_34] at h
            exact W.vret hx hb hr (fun t ht hW => ⟨⟨(ro, sz, fc_, fn_, ra, rb, rc, rx, ry, rz, rs), rfl, (Option.some.inj h), by rw [ht]; exact hP, hD⟩, hS.F ht⟩) hS.2.2 d_T_fill_91
          · rw [if_neg c_34] at h
            refine lv_iconst (v := (1 : Int32)) hx hb d_T_fill_41 (by decide) ?_
            refine lv_istore (lv' := [(5, .int (1 : Int32)), (4, .int lp_), (0, .ref h0), (1, .int cl), (2, .ref h3), (3, .int nn)]) hx hb d_T_fill_42 hl (by decide) rfl (fun ls hl => ?_)
            rcases e_63 : lp_T_fill_44 fa fb fc fd fe ff cl nn 20 lp_ (1 : Int32) ro sz fc_ fn_ ra rb rc rx ry rz rs with _ | ⟨lp__50, lr_51, ro_52, sz_53, fc__54, fn__55, ra_56, rb_57, rc_58, rx_59, ry_60, rz_61, rs_62⟩
            · rw [e_63] at h; cases h
            rw [e_63, Option.bind_some] at h
            try dsimp only at h
            refine L_44 20 lp_ (1 : Int32) ro sz fc_ fn_ ra rb rc rx ry rz rs lp__50 lr_51 ro_52 sz_53 fc__54 fn__55 ra_56 rb_57 rc_58 rx_59 ry_60 rz_61 rs_62 e_63 _ _ hP hD hS ls (lv_sub hl [1, 0, 2, 3, 4, 5] rfl) (fun H locs hP hD hS ls hl => ?_)
            refine lv_iinc (v := lp__50 + (1 : Int32)) (lv' := [(4, .int (lp__50 + (1 : Int32))), (5, .int lr_51), (0, .ref h0), (1, .int cl), (2, .ref h3), (3, .int nn)]) hx hb d_T_fill_85 hl (k := 0) rfl rfl (by decide) rfl (fun ls hl => ?_)
            refine lv_goto (tgt := 35) hx hb d_T_fill_88 (by decide) ?_
            exact ih (lp__50 + (1 : Int32)) ro_52 sz_53 fc__54 fn__55 ra_56 rb_57 rc_58 rx_59 ry_60 rz_61 rs_62 h H locs hP hD hS ls (lv_sub hl [0, 2, 3, 4, 5] rfl)
      exact L_35 20 (1 : Int32) ro (0 : Int32) cl nn ra rb rc rx ry rz rs h _ _ hP hD hS ls (lv_sub hl [0, 1, 2, 3, 4] rfl)
    · rw [if_pos c_33] at h
      exact W.vret hx hb hr (fun t ht hW => ⟨⟨(ro, sz, fc_, fn_, ra, rb, rc, rx, ry, rz, rs), rfl, (Option.some.inj h), by rw [ht]; exact hP, hD⟩, hS.F ht⟩) hS.2.2 d_T_fill_16
-- CellBench$MultipleTable orderToOther (ILCellBench$MultipleTable;I)I
def lp_T_ordO_3 (sz : Int32) (ro : Nat → Int64) (sy : Int32) (rp : Nat → Int64) (rw : Int32) (ow : Int32) : Nat → Int32 → Option (Int32)
  | 0, _ => none
  | n + 1, wh =>
    if (6 : Int32) ≤ wh then (some (0 : Int32)) else (Option.bind (f_T_at sz ro rw wh) (fun z_8 => (Option.bind (f_T_at sy rp ow wh) (fun z_7 => (if (f_Long_cmp z_8 z_7) = 0 then (lp_T_ordO_3 sz ro sy rp rw ow n (wh + (1 : Int32))) else (some (f_Long_cmp z_8 z_7)))))))
def f_T_ordO (sz : Int32) (ro : Nat → Int64) (sy : Int32) (rp : Nat → Int64) (rw : Int32) (ow : Int32) : Option (Int32) :=
    lp_T_ordO_3 sz ro sy rp rw ow 7 (0 : Int32)
def w_T_ordO : List Cond := .code y_T_ordO b_T_ordO 6 (some .int) :: GW
abbrev rm_T_ordO : Room := { frames := 1, cells := 0, slots := 0, locals := 23 }
theorem g_T_ordO : GoodIn GW w_T_ordO := gi tm_379
set_option maxHeartbeats 4000000 in
set_option maxRecDepth 100000 in
theorem c_T_ordO (l : Launch) (D : va_G) (ct : CT) (ws : va_W) (k0 : Nat) (k1 : Nat) (k2 : Nat) (k3 : Nat) (h0 : Nat) (h2 : Nat) (h1 : Nat) (sz : Int32) (fc_ : Int32) (fn_ : Int32) (ro : Nat → Int64) (g0 : Nat) (g1 : Nat) (sy : Int32) (gc_ : Int32) (gn_ : Int32) (rp : Nat → Int64) (rw : Int32) (ow : Int32) (hk0 : ws[k0]? = some (h0, .inr (2, [.ref h2, .ref h1, .int sz, .int fc_, .int fn_]))) (hk1 : ws[k1]? = some (h1, .inl (ct.1, 3185, .inr (.inl ro)))) (hk2 : ws[k2]? = some (g0, .inr (2, [.ref h2, .ref g1, .int sy, .int gc_, .int gn_]))) (hk3 : ws[k3]? = some (g1, .inl (ct.1, 3185, .inr (.inl rp))))  (r0 : Int32) (h : f_T_ordO sz ro sy rp rw ow = some r0) : Met l y_T_ordO w_T_ordO rm_T_ordO (va_Pc [.ref h0, .int rw, .ref g0, .int ow] (PreP D ct ws)) (vp_Si (fun r => r = r0)) 0 0 (fun _ => False) := by
  refine Met.ofW (cc := b_T_ordO) (maxL := 6) (ret := (some .int)) (by decide) rfl ?_
  intro p e s m args below meth c s₁ B hml hv
  obtain ⟨rfl, hP, hKK⟩ := hv
  have hx := B.exec
  have hb := B.bytes
  have hr := B.returns
  have htg := ht_tl (atoms_spec (ws := w_T_ordO) B.pre)
  have hown : s.vm.findClass R_Table = some m.cls := findClass_of_methodNamed B.named
  have hlocks := B.notSynchronized
  have hK := hKK.1
  have hN := hKK.2.1
  have hO := hKK.2.2
  have hl := lv_entry ([.ref h0, .int rw, .ref g0, .int ow]) (n := 6) (Nat.le_of_ble_eq_true rfl)
  rw [lg_entry_eq]
  generalize (lg_sl ([.ref h0, .int rw, .ref g0, .int ow]) ++ List.replicate (6 - (lg_sl ([.ref h0, .int rw, .ref g0, .int ow])).length) Slot.unset).toArray = ls at hl ⊢
  have hl : lv_has ls 6 [(0, .ref h0), (1, .int rw), (2, .ref g0), (3, .int ow)] := hl
  unfold f_T_ordO at h
  refine lv_iconst (v := (0 : Int32)) hx hb d_T_ordO_0 (by decide) ?_
  refine lv_istore (lv' := [(4, .int (0 : Int32)), (0, .ref h0), (1, .int rw), (2, .ref g0), (3, .int ow)]) hx hb d_T_ordO_1 hl (by decide) rfl (fun ls hl => ?_)
  have L_3 : ∀ (n : Nat) (wh : Int32) , lp_T_ordO_3 sz ro sy rp rw ow n wh = some r0 → ∀ (ls : Array Slot), lv_has ls 6 [(4, .int wh), (0, .ref h0), (1, .int rw), (2, .ref g0), (3, .int ow)] → W p l e (headSpec w_T_ordO rm_T_ordO).room s m ([.ref h0, .int rw, .ref g0, .int ow] : List Value).toArray below meth c s.heap [] 0 0 (MQ below (vp_Si (fun r => r = r0)) ([.ref h0, .int rw, .ref g0, .int ow] : List Value).toArray s 0 0 (fun _ => False)) (F0 m 3 ls []) := by
    intro n
    induction n with
    | zero =>
      intro wh  h
      rw [lp_T_ordO_3] at h
      cases h
    | succ n ih =>
      intro wh  h ls hl
      rw [lp_T_ordO_3] at h
      refine lv_iload hx hb d_T_ordO_3 (lv_at hl 0 rfl) ?_
      refine lv_bipush (v := (6 : Int32)) hx hb d_T_ordO_5 (by decide) ?_
      refine lv_icmp_ge (tgt := 43) hx hb d_T_ordO_7 (by decide) (fun c_1 => ?_) (fun c_1 => ?_)
      · rw [if_pos c_1] at h
        refine lv_iconst (v := (0 : Int32)) hx hb d_T_ordO_43 (by decide) ?_
        exact W.iret (v := (0 : Int32)) hx hb hr (fun t ht hW => ⟨(0 : Int32), rfl, (Option.some.inj h), ht⟩) (fun q h => by cases h) d_T_ordO_44
      · rw [if_neg c_1] at h
        refine lv_aload_n hx hb d_T_ordO_10 rfl (lv_at hl 1 rfl) ?_
        refine lv_iload_n hx hb d_T_ordO_11 rfl (lv_at hl 2 rfl) ?_
        refine lv_iload hx hb d_T_ordO_12 (lv_at hl 0 rfl) ?_
        rcases e_2 : f_T_at sz ro rw wh with _ | v_3
        · rw [e_2] at h; cases h
        rw [e_2, Option.bind_some] at h
        try dsimp only at h
        refine vp_callSl (va_Run.run (va_runV (As := [.int rw, .int wh]) (rest := []) ⟨hx, hb, hml, hown, htg⟩ (c_T_at l D ct ws k0 k1 h0 h2 h1 sz fc_ fn_ ro rw wh hk0 hk1  _ e_2) (cwV 2 htg (giV tm_343 tm_344 tm_345 tm_33 g_T_at) rfl rfl rfl (by decide +kernel) ⟨Nat.le_of_ble_eq_true rfl, Nat.le_of_ble_eq_true rfl⟩) (preV hP hKK (va_recv hK hP (ci := 2) (q0 := k0) rfl hk0)) rfl rfl hl.1 rfl (lv_room (Nat.le_of_ble_eq_true rfl)) d_T_ordO_14 ⟨Nat.le_of_ble_eq_true rfl, Nat.le_of_ble_eq_true rfl⟩)) (fun r9 hr9 => ?_)
        have hr9 := hr9.symm
        subst hr9
        refine lv_aload_n hx hb d_T_ordO_17 rfl (lv_at hl 3 rfl) ?_
        refine lv_iload_n hx hb d_T_ordO_18 rfl (lv_at hl 4 rfl) ?_
        refine lv_iload hx hb d_T_ordO_19 (lv_at hl 0 rfl) ?_
        rcases e_4 : f_T_at sy rp ow wh with _ | v_5
        · rw [e_4] at h; cases h
        rw [e_4, Option.bind_some] at h
        try dsimp only at h
        refine vp_callSl (va_Run.run (va_runV (As := [.int ow, .int wh]) (rest := [.long v_3]) ⟨hx, hb, hml, hown, htg⟩ (c_T_at l D ct ws k2 k3 g0 h2 g1 sy gc_ gn_ rp ow wh hk2 hk3  _ e_4) (cwV 2 htg (giV tm_343 tm_344 tm_345 tm_33 g_T_at) rfl rfl rfl (by decide +kernel) ⟨Nat.le_of_ble_eq_true rfl, Nat.le_of_ble_eq_true rfl⟩) (preV hP hKK (va_recv hK hP (ci := 2) (q0 := k2) rfl hk2)) rfl rfl hl.1 rfl (lv_room (Nat.le_of_ble_eq_true rfl)) d_T_ordO_21 ⟨Nat.le_of_ble_eq_true rfl, Nat.le_of_ble_eq_true rfl⟩)) (fun r9 hr9 => ?_)
        have hr9 := hr9.symm
        subst hr9
        refine vp_callSi (va_Run.run (va_runS (As := [.long v_3, .long v_5]) (rest := []) ⟨hx, hb, hml, hown, htg⟩ (c_Long_cmp l D ct ws  v_3 v_5   _ rfl) ⟨callB_of 2 htg g_Long_cmp rfl rfl rfl (htg _ tm_37) (htg _ tm_351) (by decide +kernel) ⟨Nat.le_of_ble_eq_true rfl, Nat.le_of_ble_eq_true rfl⟩, (htg _ tm_200)⟩ (preS hP hKK) rfl rfl hl.1 rfl (lv_room (Nat.le_of_ble_eq_true rfl)) d_T_ordO_24 ⟨Nat.le_of_ble_eq_true rfl, Nat.le_of_ble_eq_true rfl⟩)) (fun r9 hr9 => ?_)
        subst hr9
        refine lv_istore (lv' := [(5, .int (f_Long_cmp v_3 v_5)), (4, .int wh), (0, .ref h0), (1, .int rw), (2, .ref g0), (3, .int ow)]) hx hb d_T_ordO_27 hl (by decide) rfl (fun ls hl => ?_)
        refine lv_iload hx hb d_T_ordO_29 (lv_at hl 0 rfl) ?_
        refine lv_if_eq (tgt := 37) hx hb d_T_ordO_31 (by decide) (fun c_6 => ?_) (fun c_6 => ?_)
        · rw [if_pos c_6] at h
          refine lv_iinc (v := wh + (1 : Int32)) (lv' := [(4, .int (wh + (1 : Int32))), (5, .int (f_Long_cmp v_3 v_5)), (0, .ref h0), (1, .int rw), (2, .ref g0), (3, .int ow)]) hx hb d_T_ordO_37 hl (k := 1) rfl rfl (by decide) rfl (fun ls hl => ?_)
          refine lv_goto (tgt := 3) hx hb d_T_ordO_40 (by decide) ?_
          exact ih (wh + (1 : Int32)) h ls (lv_sub hl [0, 2, 3, 4, 5] rfl)
        · rw [if_neg c_6] at h
          refine lv_iload hx hb d_T_ordO_34 (lv_at hl 0 rfl) ?_
          exact W.iret (v := f_Long_cmp v_3 v_5) hx hb hr (fun t ht hW => ⟨f_Long_cmp v_3 v_5, rfl, (Option.some.inj h), ht⟩) (fun q h => by cases h) d_T_ordO_36
  exact L_3 7 (0 : Int32) h ls (lv_sub hl [0, 1, 2, 3, 4] rfl)
-- CellBench$MultipleTable countShared (LCellBench$MultipleTable;)I
def lp_T_shared_16 (sz : Int32) (ro : Nat → Int64) (sy : Int32) (rp : Nat → Int64) : Nat → Int32 → Int32 → Int32 → Option (Int32 × Int32 × Int32)
  | 0, _, _, _ => none
  | n + 1, shd, thr, mn =>
    if sy ≤ thr then (some (shd, thr, mn)) else (Option.bind (f_T_ordO sz ro sy rp mn thr) (fun z_6 => (if z_6 ≤ 0 then (some (shd, thr, mn)) else (lp_T_shared_16 sz ro sy rp n shd (thr + (1 : Int32)) mn))))
def lp_T_shared_7 (sz : Int32) (ro : Nat → Int64) (sy : Int32) (rp : Nat → Int64) : Nat → Int32 → Int32 → Int32 → Option (Int32)
  | 0, _, _, _ => none
  | n + 1, shd, thr, mn =>
    if sz ≤ mn then (some shd) else (Option.bind (lp_T_shared_16 sz ro sy rp 500 shd thr mn) (fun z_16 => (if sy ≤ z_16.2.1 then (lp_T_shared_7 sz ro sy rp n z_16.1 z_16.2.1 (z_16.2.2 + (1 : Int32))) else (Option.bind (f_T_ordO sz ro sy rp z_16.2.2 z_16.2.1) (fun z_15 => (if z_15 = 0 then (lp_T_shared_7 sz ro sy rp n (z_16.1 + (1 : Int32)) z_16.2.1 (z_16.2.2 + (1 : Int32))) else (lp_T_shared_7 sz ro sy rp n z_16.1 z_16.2.1 (z_16.2.2 + (1 : Int32)))))))))
def f_T_shared (sz : Int32) (ro : Nat → Int64) (sy : Int32) (rp : Nat → Int64) : Option (Int32) :=
    lp_T_shared_7 sz ro sy rp 500 (0 : Int32) (0 : Int32) (0 : Int32)
def w_T_shared : List Cond := .code y_T_shared b_T_shared 5 (some .int) :: GW
abbrev rm_T_shared : Room := { frames := 2, cells := 0, slots := 0, locals := 48 }
theorem g_T_shared : GoodIn GW w_T_shared := gi tm_375
set_option maxHeartbeats 4000000 in
set_option maxRecDepth 100000 in
theorem c_T_shared (l : Launch) (D : va_G) (ct : CT) (ws : va_W) (k0 : Nat) (k1 : Nat) (k2 : Nat) (k3 : Nat) (h0 : Nat) (h2 : Nat) (h1 : Nat) (sz : Int32) (fc_ : Int32) (fn_ : Int32) (ro : Nat → Int64) (g0 : Nat) (g1 : Nat) (sy : Int32) (gc_ : Int32) (gn_ : Int32) (rp : Nat → Int64) (hk0 : ws[k0]? = some (h0, .inr (2, [.ref h2, .ref h1, .int sz, .int fc_, .int fn_]))) (hk1 : ws[k1]? = some (h1, .inl (ct.1, 3185, .inr (.inl ro)))) (hk2 : ws[k2]? = some (g0, .inr (2, [.ref h2, .ref g1, .int sy, .int gc_, .int gn_]))) (hk3 : ws[k3]? = some (g1, .inl (ct.1, 3185, .inr (.inl rp))))  (r0 : Int32) (h : f_T_shared sz ro sy rp = some r0) : Met l y_T_shared w_T_shared rm_T_shared (va_Pc [.ref h0, .ref g0] (PreP D ct ws)) (vp_Si (fun r => r = r0)) 0 0 (fun _ => False) := by
  refine Met.ofW (cc := b_T_shared) (maxL := 5) (ret := (some .int)) (by decide) rfl ?_
  intro p e s m args below meth c s₁ B hml hv
  obtain ⟨rfl, hP, hKK⟩ := hv
  have hx := B.exec
  have hb := B.bytes
  have hr := B.returns
  have htg := ht_tl (atoms_spec (ws := w_T_shared) B.pre)
  have hown : s.vm.findClass R_Table = some m.cls := findClass_of_methodNamed B.named
  have hlocks := B.notSynchronized
  have hK := hKK.1
  have hN := hKK.2.1
  have hO := hKK.2.2
  have hl := lv_entry ([.ref h0, .ref g0]) (n := 5) (Nat.le_of_ble_eq_true rfl)
  rw [lg_entry_eq]
  generalize (lg_sl ([.ref h0, .ref g0]) ++ List.replicate (5 - (lg_sl ([.ref h0, .ref g0])).length) Slot.unset).toArray = ls at hl ⊢
  have hl : lv_has ls 5 [(0, .ref h0), (1, .ref g0)] := hl
  unfold f_T_shared at h
  refine lv_iconst (v := (0 : Int32)) hx hb d_T_shared_0 (by decide) ?_
  refine lv_istore_n (lv' := [(2, .int (0 : Int32)), (0, .ref h0), (1, .ref g0)]) hx hb d_T_shared_1 rfl hl (by decide) rfl (fun ls hl => ?_)
  refine lv_iconst (v := (0 : Int32)) hx hb d_T_shared_2 (by decide) ?_
  refine lv_istore_n (lv' := [(3, .int (0 : Int32)), (2, .int (0 : Int32)), (0, .ref h0), (1, .ref g0)]) hx hb d_T_shared_3 rfl hl (by decide) rfl (fun ls hl => ?_)
  refine lv_iconst (v := (0 : Int32)) hx hb d_T_shared_4 (by decide) ?_
  refine lv_istore (lv' := [(4, .int (0 : Int32)), (3, .int (0 : Int32)), (2, .int (0 : Int32)), (0, .ref h0), (1, .ref g0)]) hx hb d_T_shared_5 hl (by decide) rfl (fun ls hl => ?_)
  have L_16 : ∀ (n : Nat) (shd : Int32) (thr : Int32) (mn : Int32) (shd' : Int32) (thr' : Int32) (mn' : Int32), lp_T_shared_16 sz ro sy rp n shd thr mn = some (shd', thr', mn') → ∀ (ls : Array Slot), lv_has ls 5 [(2, .int shd), (3, .int thr), (4, .int mn), (0, .ref h0), (1, .ref g0)] → (∀ (ls : Array Slot), lv_has ls 5 [(2, .int shd'), (3, .int thr'), (4, .int mn'), (0, .ref h0), (1, .ref g0)] → W p l e (headSpec w_T_shared rm_T_shared).room s m ([.ref h0, .ref g0] : List Value).toArray below meth c s.heap [] 0 0 (MQ below (vp_Si (fun r => r = r0)) ([.ref h0, .ref g0] : List Value).toArray s 0 0 (fun _ => False)) (F0 m 41 ls [])) → W p l e (headSpec w_T_shared rm_T_shared).room s m ([.ref h0, .ref g0] : List Value).toArray below meth c s.heap [] 0 0 (MQ below (vp_Si (fun r => r = r0)) ([.ref h0, .ref g0] : List Value).toArray s 0 0 (fun _ => False)) (F0 m 16 ls []) := by
    intro n
    induction n with
    | zero =>
      intro shd thr mn shd' thr' mn' h
      rw [lp_T_shared_16] at h
      cases h
    | succ n ih =>
      intro shd thr mn shd' thr' mn' h ls hl K
      rw [lp_T_shared_16] at h
      refine lv_iload_n hx hb d_T_shared_16 rfl (lv_at hl 1 rfl) ?_
      refine lv_aload_n hx hb d_T_shared_17 rfl (lv_at hl 4 rfl) ?_
      refine va_get (D := D) (ci := 2) (v := .int sy) (C := R_Table) (T := F_Table) (N := 5) hx hb htg i_Table hown hK hP k2 hk2 rfl 2 (by decide) (htg _ tm_86) (fun _ h9 => h9) rfl d_T_shared_18 ?_
      refine lv_icmp_ge (tgt := 41) hx hb d_T_shared_21 (by decide) (fun c_2 => ?_) (fun c_2 => ?_)
      · rw [if_pos c_2] at h
        cases h
        exact K _ (lv_sub hl [0, 1, 2, 3, 4] rfl)
      · rw [if_neg c_2] at h
        refine lv_aload_n hx hb d_T_shared_24 rfl (lv_at hl 3 rfl) ?_
        refine lv_iload hx hb d_T_shared_25 (lv_at hl 2 rfl) ?_
        refine lv_aload_n hx hb d_T_shared_27 rfl (lv_at hl 4 rfl) ?_
        refine lv_iload_n hx hb d_T_shared_28 rfl (lv_at hl 1 rfl) ?_
        rcases e_3 : f_T_ordO sz ro sy rp mn thr with _ | v_4
        · rw [e_3] at h; cases h
        rw [e_3, Option.bind_some] at h
        try dsimp only at h
        refine vp_callSi (va_Run.run (va_runV (As := [.int mn, .ref g0, .int thr]) (rest := []) ⟨hx, hb, hml, hown, htg⟩ (c_T_ordO l D ct ws k0 k1 k2 k3 h0 h2 h1 sz fc_ fn_ ro g0 g1 sy gc_ gn_ rp mn thr hk0 hk1 hk2 hk3  _ e_3) (cwV 3 htg (giV tm_376 tm_378 tm_18 tm_33 g_T_ordO) rfl rfl rfl (by decide +kernel) ⟨Nat.le_of_ble_eq_true rfl, Nat.le_of_ble_eq_true rfl⟩) (preV hP hKK (va_recv hK hP (ci := 2) (q0 := k0) rfl hk0)) rfl rfl hl.1 rfl (lv_room (Nat.le_of_ble_eq_true rfl)) d_T_shared_29 ⟨Nat.le_of_ble_eq_true rfl, Nat.le_of_ble_eq_true rfl⟩)) (fun r9 hr9 => ?_)
        have hr9 := hr9.symm
        subst hr9
        refine lv_if_le (tgt := 41) hx hb d_T_shared_32 (by decide) (fun c_5 => ?_) (fun c_5 => ?_)
        · rw [if_pos c_5] at h
          cases h
          exact K _ (lv_sub hl [0, 1, 2, 3, 4] rfl)
        · rw [if_neg c_5] at h
          refine lv_iinc (v := thr + (1 : Int32)) (lv' := [(3, .int (thr + (1 : Int32))), (2, .int shd), (4, .int mn), (0, .ref h0), (1, .ref g0)]) hx hb d_T_shared_35 hl (k := 1) rfl rfl (by decide) rfl (fun ls hl => ?_)
          refine lv_goto (tgt := 16) hx hb d_T_shared_38 (by decide) ?_
          exact ih shd (thr + (1 : Int32)) mn _ _ _ h ls (lv_sub hl [1, 0, 2, 3, 4] rfl) K
  have L_7 : ∀ (n : Nat) (shd : Int32) (thr : Int32) (mn : Int32) , lp_T_shared_7 sz ro sy rp n shd thr mn = some r0 → ∀ (ls : Array Slot), lv_has ls 5 [(2, .int shd), (3, .int thr), (4, .int mn), (0, .ref h0), (1, .ref g0)] → W p l e (headSpec w_T_shared rm_T_shared).room s m ([.ref h0, .ref g0] : List Value).toArray below meth c s.heap [] 0 0 (MQ below (vp_Si (fun r => r = r0)) ([.ref h0, .ref g0] : List Value).toArray s 0 0 (fun _ => False)) (F0 m 7 ls []) := by
    intro n
    induction n with
    | zero =>
      intro shd thr mn  h
      rw [lp_T_shared_7] at h
      cases h
    | succ n ih =>
      intro shd thr mn  h ls hl
      rw [lp_T_shared_7] at h
      refine lv_iload hx hb d_T_shared_7 (lv_at hl 2 rfl) ?_
      refine lv_aload_n hx hb d_T_shared_9 rfl (lv_at hl 3 rfl) ?_
      refine va_get (D := D) (ci := 2) (v := .int sz) (C := R_Table) (T := F_Table) (N := 5) hx hb htg i_Table hown hK hP k0 hk0 rfl 2 (by decide) (htg _ tm_86) (fun _ h9 => h9) rfl d_T_shared_10 ?_
      refine lv_icmp_ge (tgt := 69) hx hb d_T_shared_13 (by decide) (fun c_1 => ?_) (fun c_1 => ?_)
      · rw [if_pos c_1] at h
        refine lv_iload_n hx hb d_T_shared_69 rfl (lv_at hl 0 rfl) ?_
        exact W.iret (v := shd) hx hb hr (fun t ht hW => ⟨shd, rfl, (Option.some.inj h), ht⟩) (fun q h => by cases h) d_T_shared_70
      · rw [if_neg c_1] at h
        rcases e_10 : lp_T_shared_16 sz ro sy rp 500 shd thr mn with _ | ⟨shd_7, thr_8, mn_9⟩
        · rw [e_10] at h; cases h
        rw [e_10, Option.bind_some] at h
        try dsimp only at h
        refine L_16 500 shd thr mn shd_7 thr_8 mn_9 e_10 ls (lv_sub hl [0, 1, 2, 3, 4] rfl) (fun ls hl => ?_)
        refine lv_iload_n hx hb d_T_shared_41 rfl (lv_at hl 1 rfl) ?_
        refine lv_aload_n hx hb d_T_shared_42 rfl (lv_at hl 4 rfl) ?_
        refine va_get (D := D) (ci := 2) (v := .int sy) (C := R_Table) (T := F_Table) (N := 5) hx hb htg i_Table hown hK hP k2 hk2 rfl 2 (by decide) (htg _ tm_86) (fun _ h9 => h9) rfl d_T_shared_43 ?_
        refine lv_icmp_ge (tgt := 63) hx hb d_T_shared_46 (by decide) (fun c_11 => ?_) (fun c_11 => ?_)
        · rw [if_pos c_11] at h
          refine lv_iinc (v := mn_9 + (1 : Int32)) (lv' := [(4, .int (mn_9 + (1 : Int32))), (2, .int shd_7), (3, .int thr_8), (0, .ref h0), (1, .ref g0)]) hx hb d_T_shared_63 hl (k := 2) rfl rfl (by decide) rfl (fun ls hl => ?_)
          refine lv_goto (tgt := 7) hx hb d_T_shared_66 (by decide) ?_
          exact ih shd_7 thr_8 (mn_9 + (1 : Int32)) h ls (lv_sub hl [1, 2, 0, 3, 4] rfl)
        · rw [if_neg c_11] at h
          refine lv_aload_n hx hb d_T_shared_49 rfl (lv_at hl 3 rfl) ?_
          refine lv_iload hx hb d_T_shared_50 (lv_at hl 2 rfl) ?_
          refine lv_aload_n hx hb d_T_shared_52 rfl (lv_at hl 4 rfl) ?_
          refine lv_iload_n hx hb d_T_shared_53 rfl (lv_at hl 1 rfl) ?_
          rcases e_12 : f_T_ordO sz ro sy rp mn_9 thr_8 with _ | v_13
          · rw [e_12] at h; cases h
          rw [e_12, Option.bind_some] at h
          try dsimp only at h
          refine vp_callSi (va_Run.run (va_runV (As := [.int mn_9, .ref g0, .int thr_8]) (rest := []) ⟨hx, hb, hml, hown, htg⟩ (c_T_ordO l D ct ws k0 k1 k2 k3 h0 h2 h1 sz fc_ fn_ ro g0 g1 sy gc_ gn_ rp mn_9 thr_8 hk0 hk1 hk2 hk3  _ e_12) (cwV 3 htg (giV tm_376 tm_378 tm_18 tm_33 g_T_ordO) rfl rfl rfl (by decide +kernel) ⟨Nat.le_of_ble_eq_true rfl, Nat.le_of_ble_eq_true rfl⟩) (preV hP hKK (va_recv hK hP (ci := 2) (q0 := k0) rfl hk0)) rfl rfl hl.1 rfl (lv_room (Nat.le_of_ble_eq_true rfl)) d_T_shared_54 ⟨Nat.le_of_ble_eq_true rfl, Nat.le_of_ble_eq_true rfl⟩)) (fun r9 hr9 => ?_)
          have hr9 := hr9.symm
          subst hr9
          refine lv_if_ne (tgt := 63) hx hb d_T_shared_57 (by decide) (fun c_14 => ?_) (fun c_14 => ?_)
          · rw [if_neg c_14] at h
            refine lv_iinc (v := mn_9 + (1 : Int32)) (lv' := [(4, .int (mn_9 + (1 : Int32))), (2, .int shd_7), (3, .int thr_8), (0, .ref h0), (1, .ref g0)]) hx hb d_T_shared_63 hl (k := 2) rfl rfl (by decide) rfl (fun ls hl => ?_)
            refine lv_goto (tgt := 7) hx hb d_T_shared_66 (by decide) ?_
            exact ih shd_7 thr_8 (mn_9 + (1 : Int32)) h ls (lv_sub hl [1, 2, 0, 3, 4] rfl)
          · rw [if_pos c_14] at h
            refine lv_iinc (v := shd_7 + (1 : Int32)) (lv' := [(2, .int (shd_7 + (1 : Int32))), (3, .int thr_8), (4, .int mn_9), (0, .ref h0), (1, .ref g0)]) hx hb d_T_shared_60 hl (k := 0) rfl rfl (by decide) rfl (fun ls hl => ?_)
            refine lv_iinc (v := mn_9 + (1 : Int32)) (lv' := [(4, .int (mn_9 + (1 : Int32))), (2, .int (shd_7 + (1 : Int32))), (3, .int thr_8), (0, .ref h0), (1, .ref g0)]) hx hb d_T_shared_63 hl (k := 2) rfl rfl (by decide) rfl (fun ls hl => ?_)
            refine lv_goto (tgt := 7) hx hb d_T_shared_66 (by decide) ?_
            exact ih (shd_7 + (1 : Int32)) thr_8 (mn_9 + (1 : Int32)) h ls (lv_sub hl [1, 2, 0, 3, 4] rfl)
  exact L_7 500 (0 : Int32) (0 : Int32) (0 : Int32) h ls (lv_sub hl [2, 1, 0, 3, 4] rfl)
-- CellBench$MultipleTable <init> (LCellBench$Reducer;)V
def f_T_init  : Int32 × Int32 × Int32 × (Nat → Int64) :=
    ((0 : Int32), (-1 : Int32), (0 : Int32), (fun _ => 0))
def w_T_init : List Cond := .code y_T_init b_T_init 2 none :: GW
abbrev rm_T_init : Room := { frames := 1, cells := 1, slots := 3185, locals := 12 }
theorem g_T_init : GoodIn GW w_T_init := gi tm_82
set_option maxHeartbeats 4000000 in
set_option maxRecDepth 100000 in
theorem c_T_init (l : Launch) (D : va_G) (ct : CT) (A : Nat → Prop) (wt : va_W)  (h0 : Nat) (h2 : Nat) (sz : Int32) (fc_ : Int32) (fn_ : Int32)   (r0 : Int32 × Int32 × Int32 × (Nat → Int64)) (h : f_T_init  = r0) : Met l y_T_init w_T_init rm_T_init (va_Pc [.ref h0, .ref h2] (PreM D ct A ([(h0, .inr (2, [.null, .null, .int sz, .int fc_, .int fn_]))] ++ wt))) (va_Qv (fun u => u = r0) (fun (u : Int32 × Int32 × Int32 × (Nat → Int64)) t => match u with | (sz', fc_', fn_', ro') => ∃ q1 : Nat, va_P D classes ([(h0, .inr (2, [.ref h2, .ref q1, .int sz', .int fc_', .int fn_'])), (q1, .inl (ct.1, 3185, .inr (.inl ro')))] ++ wt) t.heap ∧ va_D A ([(h0, .inr (2, [.ref h2, .ref q1, .int sz', .int fc_', .int fn_'])), (q1, .inl (ct.1, 3185, .inr (.inl ro')))] ++ wt)) A) 1 3185 A := by
  refine Met.ofW (cc := b_T_init) (maxL := 2) (ret := none) (by decide) rfl ?_
  intro p e s m args below meth c s₁ B hml hv
  obtain ⟨rfl, hA, hP, hD, hKK⟩ := hv
  have hx := B.exec
  have hb := B.bytes
  have hr := B.returns
  have htg := ht_tl (atoms_spec (ws := w_T_init) B.pre)
  have hown : s.vm.findClass R_Table = some m.cls := findClass_of_methodNamed B.named
  have hlocks := B.notSynchronized
  have hin : meth.name = "<init>" := (name_of_methodNamed B.named B.method).1
  have hK := hKK.1
  have hN := hKK.2.1
  have hO := hKK.2.2
  have hS : va_S A s.heap s.heap [] := va_S.rf
  have hl := lv_entry ([.ref h0, .ref h2]) (n := 2) (Nat.le_of_ble_eq_true rfl)
  rw [lg_entry_eq]
  generalize (lg_sl ([.ref h0, .ref h2]) ++ List.replicate (2 - (lg_sl ([.ref h0, .ref h2])).length) Slot.unset).toArray = ls at hl ⊢
  have hl : lv_has ls 2 [(0, .ref h0), (1, .ref h2)] := hl
  unfold f_T_init at h
  refine lv_aload_n hx hb d_T_init_0 rfl (lv_at hl 0 rfl) ?_
  refine W.objInit hx hb hown (htg _ tm_83) (htg _ tm_46) (htg _ tm_47) rfl (by rw [hml]; exact hl.1) rfl d_T_init_1 (Nat.le_of_ble_eq_true rfl) (Nat.le_of_ble_eq_true rfl) ?_
  refine W.eq (g2 := F0 m 4 ls []) rfl ?_
  refine lv_aload_n hx hb d_T_init_4 rfl (lv_at hl 0 rfl) ?_
  refine lv_aload_n hx hb d_T_init_5 rfl (lv_at hl 1 rfl) ?_
  refine va_putF (D := D) (ci := 2) (v := .ref h2) (ty := .object "CellBench$Reducer") (C := R_Table) (T := F_Table) (N := 5) hx hb htg i_Table t_Table t_Table_ok n_Table hown hK hP hD hS 0 rfl rfl 0 (by decide) (htg _ tm_84) (fun _ h9 => h9) rfl hin rfl (by decide +kernel) rfl rfl (Nat.le_of_ble_eq_true rfl) d_T_init_6 (fun H locs hP hD hS => ?_)
  have hP : va_P D classes ([(h0, .inr (2, [.ref h2, .null, .int sz, .int fc_, .int fn_]))] ++ wt) H := hP
  have hD : va_D A ([(h0, .inr (2, [.ref h2, .null, .int sz, .int fc_, .int fn_]))] ++ wt) := hD
  refine lv_aload_n hx hb d_T_init_9 rfl (lv_at hl 0 rfl) ?_
  refine lv_sipush (v := (3185 : Int32)) hx hb d_T_init_10 (by decide) ?_
  refine va_newa (atype := .long) (ty := .long) (N' := 3185) (a0 := (3185, .inr (.inl (fun _ => 0)))) hx hb (htg _ tm_100) rfl hK hP hD hS hA (fun _ => rfl) (by decide) (by decide) (by decide) (Nat.le_of_ble_eq_true rfl) (Nat.le_of_ble_eq_true rfl) d_T_init_13 (fun q_1 cA9 H hK9 hP hD hS => ?_)
  have hc9 := newJ hK9
  subst hc9
  have hP := hP.swap
  have hD := hD.swap
  have hP : va_P D classes ([(h0, .inr (2, [.ref h2, .null, .int sz, .int fc_, .int fn_])), (q_1, .inl (ct.1, 3185, .inr (.inl (fun _ => 0))))] ++ wt) H := hP
  have hD : va_D A ([(h0, .inr (2, [.ref h2, .null, .int sz, .int fc_, .int fn_])), (q_1, .inl (ct.1, 3185, .inr (.inl (fun _ => 0))))] ++ wt) := hD
  refine W.widen (k := 1) (n := 3185) (Nat.le_refl _) (Nat.le_refl _) ?_
  refine va_putF (D := D) (ci := 2) (v := .ref q_1) (ty := .array .long) (C := R_Table) (T := F_Table) (N := 5) hx hb htg i_Table t_Table t_Table_ok n_Table hown hK hP hD hS 0 rfl rfl 1 (by decide) (htg _ tm_85) (fun _ h9 => h9) rfl hin rfl (by decide +kernel) rfl rfl (Nat.le_of_ble_eq_true rfl) d_T_init_15 (fun H locs hP hD hS => ?_)
  have hP : va_P D classes ([(h0, .inr (2, [.ref h2, .ref q_1, .int sz, .int fc_, .int fn_])), (q_1, .inl (ct.1, 3185, .inr (.inl (fun _ => 0))))] ++ wt) H := hP
  have hD : va_D A ([(h0, .inr (2, [.ref h2, .ref q_1, .int sz, .int fc_, .int fn_])), (q_1, .inl (ct.1, 3185, .inr (.inl (fun _ => 0))))] ++ wt) := hD
  refine lv_aload_n hx hb d_T_init_18 rfl (lv_at hl 0 rfl) ?_
  refine lv_iconst (v := (0 : Int32)) hx hb d_T_init_19 (by decide) ?_
  refine va_put (D := D) (ci := 2) (v := .int (0 : Int32)) (ty := .int) (C := R_Table) (T := F_Table) (N := 5) hx hb htg i_Table t_Table t_Table_ok n_Table hown hK hP hD hS 0 rfl rfl 2 (by decide) (htg _ tm_86) (fun _ h9 => h9) rfl (by decide +kernel) rfl rfl (Nat.le_of_ble_eq_true rfl) d_T_init_20 (fun H locs hP hD hS => ?_)
  have hP : va_P D classes ([(h0, .inr (2, [.ref h2, .ref q_1, .int (0 : Int32), .int fc_, .int fn_])), (q_1, .inl (ct.1, 3185, .inr (.inl (fun _ => 0))))] ++ wt) H := hP
  have hD : va_D A ([(h0, .inr (2, [.ref h2, .ref q_1, .int (0 : Int32), .int fc_, .int fn_])), (q_1, .inl (ct.1, 3185, .inr (.inl (fun _ => 0))))] ++ wt) := hD
  refine lv_aload_n hx hb d_T_init_23 rfl (lv_at hl 0 rfl) ?_
  refine lv_iconst (v := (-1 : Int32)) hx hb d_T_init_24 (by decide) ?_
  refine va_put (D := D) (ci := 2) (v := .int (-1 : Int32)) (ty := .int) (C := R_Table) (T := F_Table) (N := 5) hx hb htg i_Table t_Table t_Table_ok n_Table hown hK hP hD hS 0 rfl rfl 3 (by decide) (htg _ tm_87) (fun _ h9 => h9) rfl (by decide +kernel) rfl rfl (Nat.le_of_ble_eq_true rfl) d_T_init_25 (fun H locs hP hD hS => ?_)
  have hP : va_P D classes ([(h0, .inr (2, [.ref h2, .ref q_1, .int (0 : Int32), .int (-1 : Int32), .int fn_])), (q_1, .inl (ct.1, 3185, .inr (.inl (fun _ => 0))))] ++ wt) H := hP
  have hD : va_D A ([(h0, .inr (2, [.ref h2, .ref q_1, .int (0 : Int32), .int (-1 : Int32), .int fn_])), (q_1, .inl (ct.1, 3185, .inr (.inl (fun _ => 0))))] ++ wt) := hD
  refine lv_aload_n hx hb d_T_init_28 rfl (lv_at hl 0 rfl) ?_
  refine lv_iconst (v := (0 : Int32)) hx hb d_T_init_29 (by decide) ?_
  refine va_put (D := D) (ci := 2) (v := .int (0 : Int32)) (ty := .int) (C := R_Table) (T := F_Table) (N := 5) hx hb htg i_Table t_Table t_Table_ok n_Table hown hK hP hD hS 0 rfl rfl 4 (by decide) (htg _ tm_88) (fun _ h9 => h9) rfl (by decide +kernel) rfl rfl (Nat.le_of_ble_eq_true rfl) d_T_init_30 (fun H locs hP hD hS => ?_)
  have hP : va_P D classes ([(h0, .inr (2, [.ref h2, .ref q_1, .int (0 : Int32), .int (-1 : Int32), .int (0 : Int32)])), (q_1, .inl (ct.1, 3185, .inr (.inl (fun _ => 0))))] ++ wt) H := hP
  have hD : va_D A ([(h0, .inr (2, [.ref h2, .ref q_1, .int (0 : Int32), .int (-1 : Int32), .int (0 : Int32)])), (q_1, .inl (ct.1, 3185, .inr (.inl (fun _ => 0))))] ++ wt) := hD
  exact W.vret hx hb hr (fun t ht hW => ⟨⟨((0 : Int32), (-1 : Int32), (0 : Int32), (fun _ => 0)), rfl, h, q_1, by rw [ht]; exact hP, hD⟩, hS.F ht⟩) hS.2.2 d_T_init_33
end
section
theorem d_B_find_0 : decode b_B_find 0 = .ok (.iload_n 1, 1) := by decide +kernel
theorem d_B_find_1 : decode b_B_find 1 = .ok (.ifCond .lt 20, 3) := by decide +kernel
theorem d_B_find_4 : decode b_B_find 4 = .ok (.iload_n 1, 1) := by decide +kernel
theorem d_B_find_5 : decode b_B_find 5 = .ok (.aload_n 0, 1) := by decide +kernel
theorem d_B_find_6 : decode b_B_find 6 = .ok (.getfield 34, 3) := by decide +kernel
theorem d_B_find_9 : decode b_B_find 9 = .ok (.if_icmp .ge 12, 3) := by decide +kernel
theorem d_B_find_12 : decode b_B_find 12 = .ok (.iload_n 1, 1) := by decide +kernel
theorem d_B_find_13 : decode b_B_find 13 = .ok (.aload_n 0, 1) := by decide +kernel
theorem d_B_find_14 : decode b_B_find 14 = .ok (.getfield 11, 3) := by decide +kernel
theorem d_B_find_17 : decode b_B_find 17 = .ok (.arraylength, 1) := by decide +kernel
theorem d_B_find_18 : decode b_B_find 18 = .ok (.if_icmp .lt 5, 3) := by decide +kernel
theorem d_B_find_21 : decode b_B_find 21 = .ok (.aconst_null, 1) := by decide +kernel
theorem d_B_find_22 : decode b_B_find 22 = .ok (.areturn, 1) := by decide +kernel
theorem d_B_find_23 : decode b_B_find 23 = .ok (.aload_n 0, 1) := by decide +kernel
theorem d_B_find_24 : decode b_B_find 24 = .ok (.getfield 11, 3) := by decide +kernel
theorem d_B_find_27 : decode b_B_find 27 = .ok (.iload_n 1, 1) := by decide +kernel
theorem d_B_find_28 : decode b_B_find 28 = .ok (.aaload, 1) := by decide +kernel
theorem d_B_find_29 : decode b_B_find 29 = .ok (.areturn, 1) := by decide +kernel
end
section
-- CellBench find (I)LCellBench$Cell;
def f_B_find (cnt : Int32) (cf : Nat → Option Nat) (nb : Int32) : Option (Option Nat) :=
    if nb < 0 then (some none) else (if cnt ≤ nb then (some none) else (if nb < (Int32.ofNat 40) then (if inb nb 40 = true then (some (cf nb.toNatClampNeg)) else none) else (some none)))
def w_B_find : List Cond := .code y_B_find b_B_find 2 (some (.object "CellBench$Cell")) :: GW
abbrev rm_B_find : Room := { frames := 0, cells := 0, slots := 0, locals := 0 }
theorem g_B_find : GoodIn GW w_B_find := gi tm_281
set_option maxHeartbeats 4000000 in
set_option maxRecDepth 100000 in
theorem c_B_find (l : Launch) (D : va_G) (ct : CT) (ws : va_W) (k0 : Nat) (k1 : Nat) (h0 : Nat) (h1 : Nat) (h2 : Nat) (h3 : Nat) (h5 : Nat) (cnt : Int32) (cf : Nat → Option Nat) (nb : Int32) (hk0 : ws[k0]? = some (h0, .inr (4, [.ref h1, .ref h2, .ref h3, .ref h5, .int cnt]))) (hk1 : ws[k1]? = some (h1, .inl (ct.2.1, 40, .inr (.inr (.inr (.inr cf))))))  (r0 : Option Nat) (h : f_B_find cnt cf nb = some r0) : Met l y_B_find w_B_find rm_B_find (va_Pc [.ref h0, .int nb] (PreP D ct ws)) (va_Sq (fun r => r = r0)) 0 0 (fun _ => False) := by
  refine Met.ofW (cc := b_B_find) (maxL := 2) (ret := (some (.object "CellBench$Cell"))) (by decide) rfl ?_
  intro p e s m args below meth c s₁ B hml hv
  obtain ⟨rfl, hP, hKK⟩ := hv
  have hx := B.exec
  have hb := B.bytes
  have hr := B.returns
  have htg := ht_tl (atoms_spec (ws := w_B_find) B.pre)
  have hown : s.vm.findClass R_Bench = some m.cls := findClass_of_methodNamed B.named
  have hlocks := B.notSynchronized
  have hK := hKK.1
  have hN := hKK.2.1
  have hO := hKK.2.2
  have hl := lv_entry ([.ref h0, .int nb]) (n := 2) (Nat.le_of_ble_eq_true rfl)
  rw [lg_entry_eq]
  generalize (lg_sl ([.ref h0, .int nb]) ++ List.replicate (2 - (lg_sl ([.ref h0, .int nb])).length) Slot.unset).toArray = ls at hl ⊢
  have hl : lv_has ls 2 [(0, .ref h0), (1, .int nb)] := hl
  unfold f_B_find at h
  refine lv_iload_n hx hb d_B_find_0 rfl (lv_at hl 1 rfl) ?_
  refine lv_if_lt (tgt := 21) hx hb d_B_find_1 (by decide) (fun c_1 => ?_) (fun c_1 => ?_)
  · rw [if_pos c_1] at h
    refine lv_null hx hb d_B_find_21 ?_
    exact W.aret (v := .null) hx hb hr (Or.inl ⟨_, rfl⟩) (Or.inl rfl) (fun t ht hW => ⟨none, rfl, (Option.some.inj h), ht⟩) (fun q h => by cases h) d_B_find_22
  · rw [if_neg c_1] at h
    refine lv_iload_n hx hb d_B_find_4 rfl (lv_at hl 1 rfl) ?_
    refine lv_aload_n hx hb d_B_find_5 rfl (lv_at hl 0 rfl) ?_
    refine va_get (D := D) (ci := 4) (v := .int cnt) (C := R_Bench) (T := F_Bench) (N := 5) hx hb htg i_Bench hown hK hP k0 hk0 rfl 4 (by decide) (htg _ tm_105) (fun _ h9 => h9) rfl d_B_find_6 ?_
    refine lv_icmp_ge (tgt := 21) hx hb d_B_find_9 (by decide) (fun c_2 => ?_) (fun c_2 => ?_)
    · rw [if_pos c_2] at h
      refine lv_null hx hb d_B_find_21 ?_
      exact W.aret (v := .null) hx hb hr (Or.inl ⟨_, rfl⟩) (Or.inl rfl) (fun t ht hW => ⟨none, rfl, (Option.some.inj h), ht⟩) (fun q h => by cases h) d_B_find_22
    · rw [if_neg c_2] at h
      refine lv_iload_n hx hb d_B_find_12 rfl (lv_at hl 1 rfl) ?_
      refine lv_aload_n hx hb d_B_find_13 rfl (lv_at hl 0 rfl) ?_
      refine va_get (D := D) (ci := 4) (v := .ref h1) (C := R_Bench) (T := F_Bench) (N := 5) hx hb htg i_Bench hown hK hP k0 hk0 rfl 0 (by decide) (htg _ tm_101) (fun _ h9 => h9) rfl d_B_find_14 ?_
      refine va_alen (v := Int32.ofNat 40) hx hb hK hP k1 1 hk1 rfl rfl d_B_find_17 ?_
      refine lv_icmp_lt (tgt := 23) hx hb d_B_find_18 (by decide) (fun c_3 => ?_) (fun c_3 => ?_)
      · rw [if_pos c_3] at h
        refine lv_aload_n hx hb d_B_find_23 rfl (lv_at hl 0 rfl) ?_
        refine va_get (D := D) (ci := 4) (v := .ref h1) (C := R_Bench) (T := F_Bench) (N := 5) hx hb htg i_Bench hown hK hP k0 hk0 rfl 0 (by decide) (htg _ tm_101) (fun _ h9 => h9) rfl d_B_find_24 ?_
        refine lv_iload_n hx hb d_B_find_27 rfl (lv_at hl 1 rfl) ?_
        by_cases b_4 : inb nb 40 = true
        rotate_left
        · rw [if_neg b_4] at h; cases h
        rw [if_pos b_4] at h
        refine va_aldq hx hb hK hP k1 1 hk1 rfl (inb_in b_4) d_B_find_28 ?_
        exact W.aret (v := va_rf (cf nb.toNatClampNeg)) hx hb hr (Or.inl ⟨_, rfl⟩) (va_rf_or _) (fun t ht hW => ⟨cf nb.toNatClampNeg, rfl, (Option.some.inj h), ht⟩) (fun q h => by cases h) d_B_find_29
      · rw [if_neg c_3] at h
        refine lv_null hx hb d_B_find_21 ?_
        exact W.aret (v := .null) hx hb hr (Or.inl ⟨_, rfl⟩) (Or.inl rfl) (fun t ht hW => ⟨none, rfl, (Option.some.inj h), ht⟩) (fun q h => by cases h) d_B_find_22
end
section
-- the bench's cells: the array holds them by their numbers, each with its two sixes
def cfun (kn : Nat) (ca : Nat → Nat) : Nat → Option Nat := fun j => if j < kn then some (ca j) else none
theorem inb_lt {i : Int32} {n : Nat} (h : inb i n = true) : i.toNatClampNeg < n := by
  have h1 := of_decide_eq_true h
  show i.toInt.toNat < n
  omega
def p6 (t : P6) : List Value := [.long t.1, .long t.2.1, .long t.2.2.1, .long t.2.2.2.1, .long t.2.2.2.2.1, .long t.2.2.2.2.2]
def PoolIn (ws : va_W) (ca ta la : Nat → Nat) (td lw : Nat → P6) (sy sh : Nat → Int32) (kn : Nat) : Prop :=
  ∀ i, i < kn → (∃ k : Nat, ws[k]? = some (ca i, .inr (3, [.ref (ta i), .ref (la i), .int (sy i), .int (sh i)]))) ∧ (∃ k : Nat, ws[k]? = some (ta i, .inr (0, p6 (td i)))) ∧ (∃ k : Nat, ws[k]? = some (la i, .inr (0, p6 (lw i))))
theorem find_in {kn : Nat} {ca : Nat → Nat} {nb : Int32} (hk : kn ≤ 40) (hb : inb nb kn = true) : f_B_find (nI kn) (cfun kn ca) nb = some (some (ca nb.toNatClampNeg)) := by
  obtain ⟨h0, h1⟩ := of_decide_eq_true hb
  have e1 : ¬ nb < 0 := by
    rw [Int32.lt_iff_toInt_lt]
    show ¬ nb.toInt < 0
    omega
  have e2 : ¬ nI kn ≤ nb := by
    rw [Int32.le_iff_toInt_le, nI_toInt (by omega)]
    omega
  have e3 : nb < Int32.ofNat 40 := by
    rw [Int32.lt_iff_toInt_lt]
    show nb.toInt < 40
    omega
  have e4 : inb nb 40 = true := decide_eq_true ⟨h0, by omega⟩
  unfold f_B_find
  rw [if_neg e1, if_neg e2, if_pos e3, if_pos e4, cfun, if_pos (inb_lt hb)]
theorem find_out {kn : Nat} {ca : Nat → Nat} {nb : Int32} (hk : kn ≤ 40) (hb : ¬ inb nb kn = true) : f_B_find (nI kn) (cfun kn ca) nb = some none := by
  unfold f_B_find
  by_cases e1 : nb < 0
  · rw [if_pos e1]
  rw [if_neg e1]
  by_cases e2 : nI kn ≤ nb
  · rw [if_pos e2]
  · refine absurd (decide_eq_true ⟨?_, ?_⟩) hb
    · rw [Int32.lt_iff_toInt_lt] at e1
      have : ¬ nb.toInt < 0 := e1
      omega
    · rw [Int32.le_iff_toInt_le, nI_toInt (by omega)] at e2
      omega
theorem nb_of {x : Int32} (h : x = 0 ∨ x = 1) : narrow .boolean (.int x) = .int x := by
  rcases h with rfl | rfl <;> rfl
theorem kept01 (a b c d e f : Int64) (i j k : Int32) : f_P_kept a b c d e f i j k = 0 ∨ f_P_kept a b c d e f i j k = 1 := by
  unfold f_P_kept
  repeat' split
  all_goals first | exact Or.inl rfl | exact Or.inr rfl
end
section
theorem d_B_reduced_0 : decode b_B_reduced 0 = .ok (.aload_n 0, 1) := by decide +kernel
theorem d_B_reduced_1 : decode b_B_reduced 1 = .ok (.iload_n 1, 1) := by decide +kernel
theorem d_B_reduced_2 : decode b_B_reduced 2 = .ok (.invokevirtual 72, 3) := by decide +kernel
theorem d_B_reduced_5 : decode b_B_reduced 5 = .ok (.astore_n 3, 1) := by decide +kernel
theorem d_B_reduced_6 : decode b_B_reduced 6 = .ok (.aload_n 3, 1) := by decide +kernel
theorem d_B_reduced_7 : decode b_B_reduced 7 = .ok (.ifnonnull 5, 3) := by decide +kernel
theorem d_B_reduced_10 : decode b_B_reduced 10 = .ok (.lconst 0, 1) := by decide +kernel
theorem d_B_reduced_11 : decode b_B_reduced 11 = .ok (.lreturn, 1) := by decide +kernel
theorem d_B_reduced_12 : decode b_B_reduced 12 = .ok (.iload_n 2, 1) := by decide +kernel
theorem d_B_reduced_13 : decode b_B_reduced 13 = .ok (.tableswitch 47 6 8 #[27, 33, 41], 27) := by decide +kernel
theorem d_B_reduced_40 : decode b_B_reduced 40 = .ok (.aload_n 3, 1) := by decide +kernel
theorem d_B_reduced_41 : decode b_B_reduced 41 = .ok (.getfield 76, 3) := by decide +kernel
theorem d_B_reduced_44 : decode b_B_reduced 44 = .ok (.i2l, 1) := by decide +kernel
theorem d_B_reduced_45 : decode b_B_reduced 45 = .ok (.lreturn, 1) := by decide +kernel
theorem d_B_reduced_46 : decode b_B_reduced 46 = .ok (.aload_n 3, 1) := by decide +kernel
theorem d_B_reduced_47 : decode b_B_reduced 47 = .ok (.getfield 79, 3) := by decide +kernel
theorem d_B_reduced_50 : decode b_B_reduced 50 = .ok (.invokevirtual 83, 3) := by decide +kernel
theorem d_B_reduced_53 : decode b_B_reduced 53 = .ok (.lreturn, 1) := by decide +kernel
theorem d_B_reduced_54 : decode b_B_reduced 54 = .ok (.aload_n 3, 1) := by decide +kernel
theorem d_B_reduced_55 : decode b_B_reduced 55 = .ok (.getfield 87, 3) := by decide +kernel
theorem d_B_reduced_58 : decode b_B_reduced 58 = .ok (.i2l, 1) := by decide +kernel
theorem d_B_reduced_59 : decode b_B_reduced 59 = .ok (.lreturn, 1) := by decide +kernel
theorem d_B_reduced_60 : decode b_B_reduced 60 = .ok (.aload_n 3, 1) := by decide +kernel
theorem d_B_reduced_61 : decode b_B_reduced 61 = .ok (.getfield 79, 3) := by decide +kernel
theorem d_B_reduced_64 : decode b_B_reduced 64 = .ok (.iload_n 2, 1) := by decide +kernel
theorem d_B_reduced_65 : decode b_B_reduced 65 = .ok (.invokevirtual 89, 3) := by decide +kernel
theorem d_B_reduced_68 : decode b_B_reduced 68 = .ok (.lreturn, 1) := by decide +kernel
theorem d_B_keeps_0 : decode b_B_keeps 0 = .ok (.aload_n 0, 1) := by decide +kernel
theorem d_B_keeps_1 : decode b_B_keeps 1 = .ok (.iload_n 1, 1) := by decide +kernel
theorem d_B_keeps_2 : decode b_B_keeps 2 = .ok (.invokevirtual 72, 3) := by decide +kernel
theorem d_B_keeps_5 : decode b_B_keeps 5 = .ok (.astore_n 3, 1) := by decide +kernel
theorem d_B_keeps_6 : decode b_B_keeps 6 = .ok (.aload_n 3, 1) := by decide +kernel
theorem d_B_keeps_7 : decode b_B_keeps 7 = .ok (.ifnull 14, 3) := by decide +kernel
theorem d_B_keeps_10 : decode b_B_keeps 10 = .ok (.iload_n 2, 1) := by decide +kernel
theorem d_B_keeps_11 : decode b_B_keeps 11 = .ok (.ifCond .lt 10, 3) := by decide +kernel
theorem d_B_keeps_14 : decode b_B_keeps 14 = .ok (.iload_n 2, 1) := by decide +kernel
theorem d_B_keeps_15 : decode b_B_keeps 15 = .ok (.sipush 19683, 3) := by decide +kernel
theorem d_B_keeps_18 : decode b_B_keeps 18 = .ok (.if_icmp .lt 5, 3) := by decide +kernel
theorem d_B_keeps_21 : decode b_B_keeps 21 = .ok (.iconst 0, 1) := by decide +kernel
theorem d_B_keeps_22 : decode b_B_keeps 22 = .ok (.ireturn, 1) := by decide +kernel
theorem d_B_keeps_23 : decode b_B_keeps 23 = .ok (.aload_n 3, 1) := by decide +kernel
theorem d_B_keeps_24 : decode b_B_keeps 24 = .ok (.getfield 93, 3) := by decide +kernel
theorem d_B_keeps_27 : decode b_B_keeps 27 = .ok (.iload_n 2, 1) := by decide +kernel
theorem d_B_keeps_28 : decode b_B_keeps 28 = .ok (.bipush 9, 2) := by decide +kernel
theorem d_B_keeps_30 : decode b_B_keeps 30 = .ok (.idiv, 1) := by decide +kernel
theorem d_B_keeps_31 : decode b_B_keeps 31 = .ok (.invokestatic 96, 3) := by decide +kernel
theorem d_B_keeps_34 : decode b_B_keeps 34 = .ok (.iload_n 2, 1) := by decide +kernel
theorem d_B_keeps_35 : decode b_B_keeps 35 = .ok (.iconst 3, 1) := by decide +kernel
theorem d_B_keeps_36 : decode b_B_keeps 36 = .ok (.idiv, 1) := by decide +kernel
theorem d_B_keeps_37 : decode b_B_keeps 37 = .ok (.invokestatic 96, 3) := by decide +kernel
theorem d_B_keeps_40 : decode b_B_keeps 40 = .ok (.iload_n 2, 1) := by decide +kernel
theorem d_B_keeps_41 : decode b_B_keeps 41 = .ok (.invokestatic 96, 3) := by decide +kernel
theorem d_B_keeps_44 : decode b_B_keeps 44 = .ok (.invokevirtual 100, 3) := by decide +kernel
theorem d_B_keeps_47 : decode b_B_keeps 47 = .ok (.ireturn, 1) := by decide +kernel
theorem d_B_step_0 : decode b_B_step 0 = .ok (.aload_n 0, 1) := by decide +kernel
theorem d_B_step_1 : decode b_B_step 1 = .ok (.iload_n 1, 1) := by decide +kernel
theorem d_B_step_2 : decode b_B_step 2 = .ok (.invokevirtual 72, 3) := by decide +kernel
theorem d_B_step_5 : decode b_B_step 5 = .ok (.astore 5, 2) := by decide +kernel
theorem d_B_step_7 : decode b_B_step 7 = .ok (.aload 5, 2) := by decide +kernel
theorem d_B_step_9 : decode b_B_step 9 = .ok (.ifnull 25, 3) := by decide +kernel
theorem d_B_step_12 : decode b_B_step 12 = .ok (.iload_n 2, 1) := by decide +kernel
theorem d_B_step_13 : decode b_B_step 13 = .ok (.invokestatic 125, 3) := by decide +kernel
theorem d_B_step_16 : decode b_B_step 16 = .ok (.ifCond .eq 18, 3) := by decide +kernel
theorem d_B_step_19 : decode b_B_step 19 = .ok (.iload_n 3, 1) := by decide +kernel
theorem d_B_step_20 : decode b_B_step 20 = .ok (.invokestatic 125, 3) := by decide +kernel
theorem d_B_step_23 : decode b_B_step 23 = .ok (.ifCond .eq 11, 3) := by decide +kernel
theorem d_B_step_26 : decode b_B_step 26 = .ok (.iload 4, 2) := by decide +kernel
theorem d_B_step_28 : decode b_B_step 28 = .ok (.invokestatic 125, 3) := by decide +kernel
theorem d_B_step_31 : decode b_B_step 31 = .ok (.ifCond .ne 5, 3) := by decide +kernel
theorem d_B_step_34 : decode b_B_step 34 = .ok (.lconst 0, 1) := by decide +kernel
theorem d_B_step_35 : decode b_B_step 35 = .ok (.lreturn, 1) := by decide +kernel
theorem d_B_step_36 : decode b_B_step 36 = .ok (.aload 5, 2) := by decide +kernel
theorem d_B_step_38 : decode b_B_step 38 = .ok (.getfield 93, 3) := by decide +kernel
theorem d_B_step_41 : decode b_B_step 41 = .ok (.iload_n 2, 1) := by decide +kernel
theorem d_B_step_42 : decode b_B_step 42 = .ok (.i2l, 1) := by decide +kernel
theorem d_B_step_43 : decode b_B_step 43 = .ok (.iload_n 3, 1) := by decide +kernel
theorem d_B_step_44 : decode b_B_step 44 = .ok (.i2l, 1) := by decide +kernel
theorem d_B_step_45 : decode b_B_step 45 = .ok (.iload 4, 2) := by decide +kernel
theorem d_B_step_47 : decode b_B_step 47 = .ok (.i2l, 1) := by decide +kernel
theorem d_B_step_48 : decode b_B_step 48 = .ok (.iload_n 2, 1) := by decide +kernel
theorem d_B_step_49 : decode b_B_step 49 = .ok (.i2l, 1) := by decide +kernel
theorem d_B_step_50 : decode b_B_step 50 = .ok (.iload_n 3, 1) := by decide +kernel
theorem d_B_step_51 : decode b_B_step 51 = .ok (.i2l, 1) := by decide +kernel
theorem d_B_step_52 : decode b_B_step 52 = .ok (.iload 4, 2) := by decide +kernel
theorem d_B_step_54 : decode b_B_step 54 = .ok (.i2l, 1) := by decide +kernel
theorem d_B_step_55 : decode b_B_step 55 = .ok (.invokevirtual 128, 3) := by decide +kernel
theorem d_B_step_58 : decode b_B_step 58 = .ok (.lreturn, 1) := by decide +kernel
theorem d_B_same_0 : decode b_B_same 0 = .ok (.aload_n 0, 1) := by decide +kernel
theorem d_B_same_1 : decode b_B_same 1 = .ok (.iload_n 1, 1) := by decide +kernel
theorem d_B_same_2 : decode b_B_same 2 = .ok (.invokevirtual 72, 3) := by decide +kernel
theorem d_B_same_5 : decode b_B_same 5 = .ok (.astore_n 2, 1) := by decide +kernel
theorem d_B_same_6 : decode b_B_same 6 = .ok (.aload_n 2, 1) := by decide +kernel
theorem d_B_same_7 : decode b_B_same 7 = .ok (.ifnonnull 5, 3) := by decide +kernel
theorem d_B_same_10 : decode b_B_same 10 = .ok (.iconst (-1), 1) := by decide +kernel
theorem d_B_same_11 : decode b_B_same 11 = .ok (.ireturn, 1) := by decide +kernel
theorem d_B_same_12 : decode b_B_same 12 = .ok (.iconst 0, 1) := by decide +kernel
theorem d_B_same_13 : decode b_B_same 13 = .ok (.istore_n 3, 1) := by decide +kernel
theorem d_B_same_14 : decode b_B_same 14 = .ok (.iload_n 3, 1) := by decide +kernel
theorem d_B_same_15 : decode b_B_same 15 = .ok (.iload_n 1, 1) := by decide +kernel
theorem d_B_same_16 : decode b_B_same 16 = .ok (.if_icmp .ge 38, 3) := by decide +kernel
theorem d_B_same_19 : decode b_B_same 19 = .ok (.aload_n 0, 1) := by decide +kernel
theorem d_B_same_20 : decode b_B_same 20 = .ok (.iload_n 3, 1) := by decide +kernel
theorem d_B_same_21 : decode b_B_same 21 = .ok (.invokevirtual 72, 3) := by decide +kernel
theorem d_B_same_24 : decode b_B_same 24 = .ok (.astore 4, 2) := by decide +kernel
theorem d_B_same_26 : decode b_B_same 26 = .ok (.aload 4, 2) := by decide +kernel
theorem d_B_same_28 : decode b_B_same 28 = .ok (.ifnull 20, 3) := by decide +kernel
theorem d_B_same_31 : decode b_B_same 31 = .ok (.aload 4, 2) := by decide +kernel
theorem d_B_same_33 : decode b_B_same 33 = .ok (.getfield 79, 3) := by decide +kernel
theorem d_B_same_36 : decode b_B_same 36 = .ok (.aload_n 2, 1) := by decide +kernel
theorem d_B_same_37 : decode b_B_same 37 = .ok (.getfield 79, 3) := by decide +kernel
theorem d_B_same_40 : decode b_B_same 40 = .ok (.invokevirtual 104, 3) := by decide +kernel
theorem d_B_same_43 : decode b_B_same 43 = .ok (.ifCond .ne 5, 3) := by decide +kernel
theorem d_B_same_46 : decode b_B_same 46 = .ok (.iload_n 3, 1) := by decide +kernel
theorem d_B_same_47 : decode b_B_same 47 = .ok (.ireturn, 1) := by decide +kernel
theorem d_B_same_48 : decode b_B_same 48 = .ok (.iinc 3 1, 3) := by decide +kernel
theorem d_B_same_51 : decode b_B_same 51 = .ok (.goto (-37), 3) := by decide +kernel
theorem d_B_same_54 : decode b_B_same 54 = .ok (.iload_n 1, 1) := by decide +kernel
theorem d_B_same_55 : decode b_B_same 55 = .ok (.ireturn, 1) := by decide +kernel
theorem d_B_shorter_0 : decode b_B_shorter 0 = .ok (.aload_n 0, 1) := by decide +kernel
theorem d_B_shorter_1 : decode b_B_shorter 1 = .ok (.iload_n 1, 1) := by decide +kernel
theorem d_B_shorter_2 : decode b_B_shorter 2 = .ok (.invokevirtual 72, 3) := by decide +kernel
theorem d_B_shorter_5 : decode b_B_shorter 5 = .ok (.astore 4, 2) := by decide +kernel
theorem d_B_shorter_7 : decode b_B_shorter 7 = .ok (.aload 4, 2) := by decide +kernel
theorem d_B_shorter_9 : decode b_B_shorter 9 = .ok (.ifnonnull 5, 3) := by decide +kernel
theorem d_B_shorter_12 : decode b_B_shorter 12 = .ok (.iconst (-1), 1) := by decide +kernel
theorem d_B_shorter_13 : decode b_B_shorter 13 = .ok (.ireturn, 1) := by decide +kernel
theorem d_B_shorter_14 : decode b_B_shorter 14 = .ok (.iconst 0, 1) := by decide +kernel
theorem d_B_shorter_15 : decode b_B_shorter 15 = .ok (.istore 5, 2) := by decide +kernel
theorem d_B_shorter_17 : decode b_B_shorter 17 = .ok (.bipush (-4), 2) := by decide +kernel
theorem d_B_shorter_19 : decode b_B_shorter 19 = .ok (.istore 6, 2) := by decide +kernel
theorem d_B_shorter_21 : decode b_B_shorter 21 = .ok (.iload 6, 2) := by decide +kernel
theorem d_B_shorter_23 : decode b_B_shorter 23 = .ok (.iconst 4, 1) := by decide +kernel
theorem d_B_shorter_24 : decode b_B_shorter 24 = .ok (.if_icmp .gt 102, 3) := by decide +kernel
theorem d_B_shorter_27 : decode b_B_shorter 27 = .ok (.bipush (-4), 2) := by decide +kernel
theorem d_B_shorter_29 : decode b_B_shorter 29 = .ok (.istore 7, 2) := by decide +kernel
theorem d_B_shorter_31 : decode b_B_shorter 31 = .ok (.iload 7, 2) := by decide +kernel
theorem d_B_shorter_33 : decode b_B_shorter 33 = .ok (.iconst 4, 1) := by decide +kernel
theorem d_B_shorter_34 : decode b_B_shorter 34 = .ok (.if_icmp .gt 86, 3) := by decide +kernel
theorem d_B_shorter_37 : decode b_B_shorter 37 = .ok (.bipush (-4), 2) := by decide +kernel
theorem d_B_shorter_39 : decode b_B_shorter 39 = .ok (.istore 8, 2) := by decide +kernel
theorem d_B_shorter_41 : decode b_B_shorter 41 = .ok (.iload 8, 2) := by decide +kernel
theorem d_B_shorter_43 : decode b_B_shorter 43 = .ok (.iconst 4, 1) := by decide +kernel
theorem d_B_shorter_44 : decode b_B_shorter 44 = .ok (.if_icmp .gt 70, 3) := by decide +kernel
theorem d_B_shorter_47 : decode b_B_shorter 47 = .ok (.iload 6, 2) := by decide +kernel
theorem d_B_shorter_49 : decode b_B_shorter 49 = .ok (.ifCond .ne 13, 3) := by decide +kernel
theorem d_B_shorter_52 : decode b_B_shorter 52 = .ok (.iload 7, 2) := by decide +kernel
theorem d_B_shorter_54 : decode b_B_shorter 54 = .ok (.ifCond .ne 8, 3) := by decide +kernel
theorem d_B_shorter_57 : decode b_B_shorter 57 = .ok (.iload 8, 2) := by decide +kernel
theorem d_B_shorter_59 : decode b_B_shorter 59 = .ok (.ifCond .eq 7, 3) := by decide +kernel
theorem d_B_shorter_62 : decode b_B_shorter 62 = .ok (.iconst 1, 1) := by decide +kernel
theorem d_B_shorter_63 : decode b_B_shorter 63 = .ok (.goto 4, 3) := by decide +kernel
theorem d_B_shorter_66 : decode b_B_shorter 66 = .ok (.iconst 0, 1) := by decide +kernel
theorem d_B_shorter_67 : decode b_B_shorter 67 = .ok (.istore 9, 2) := by decide +kernel
theorem d_B_shorter_69 : decode b_B_shorter 69 = .ok (.iload 9, 2) := by decide +kernel
theorem d_B_shorter_71 : decode b_B_shorter 71 = .ok (.ifCond .eq 37, 3) := by decide +kernel
theorem d_B_shorter_74 : decode b_B_shorter 74 = .ok (.aload 4, 2) := by decide +kernel
theorem d_B_shorter_76 : decode b_B_shorter 76 = .ok (.getfield 93, 3) := by decide +kernel
theorem d_B_shorter_79 : decode b_B_shorter 79 = .ok (.iload 6, 2) := by decide +kernel
theorem d_B_shorter_81 : decode b_B_shorter 81 = .ok (.i2l, 1) := by decide +kernel
theorem d_B_shorter_82 : decode b_B_shorter 82 = .ok (.iload 7, 2) := by decide +kernel
theorem d_B_shorter_84 : decode b_B_shorter 84 = .ok (.i2l, 1) := by decide +kernel
theorem d_B_shorter_85 : decode b_B_shorter 85 = .ok (.iload 8, 2) := by decide +kernel
theorem d_B_shorter_87 : decode b_B_shorter 87 = .ok (.i2l, 1) := by decide +kernel
theorem d_B_shorter_88 : decode b_B_shorter 88 = .ok (.iload 6, 2) := by decide +kernel
theorem d_B_shorter_90 : decode b_B_shorter 90 = .ok (.i2l, 1) := by decide +kernel
theorem d_B_shorter_91 : decode b_B_shorter 91 = .ok (.iload 7, 2) := by decide +kernel
theorem d_B_shorter_93 : decode b_B_shorter 93 = .ok (.i2l, 1) := by decide +kernel
theorem d_B_shorter_94 : decode b_B_shorter 94 = .ok (.iload 8, 2) := by decide +kernel
theorem d_B_shorter_96 : decode b_B_shorter 96 = .ok (.i2l, 1) := by decide +kernel
theorem d_B_shorter_97 : decode b_B_shorter 97 = .ok (.invokevirtual 128, 3) := by decide +kernel
theorem d_B_shorter_100 : decode b_B_shorter 100 = .ok (.lload_n 2, 1) := by decide +kernel
theorem d_B_shorter_101 : decode b_B_shorter 101 = .ok (.lcmp, 1) := by decide +kernel
theorem d_B_shorter_102 : decode b_B_shorter 102 = .ok (.ifCond .gt 6, 3) := by decide +kernel
theorem d_B_shorter_105 : decode b_B_shorter 105 = .ok (.iinc 5 1, 3) := by decide +kernel
theorem d_B_shorter_108 : decode b_B_shorter 108 = .ok (.iinc 8 1, 3) := by decide +kernel
theorem d_B_shorter_111 : decode b_B_shorter 111 = .ok (.goto (-70), 3) := by decide +kernel
theorem d_B_shorter_114 : decode b_B_shorter 114 = .ok (.iinc 7 1, 3) := by decide +kernel
theorem d_B_shorter_117 : decode b_B_shorter 117 = .ok (.goto (-86), 3) := by decide +kernel
theorem d_B_shorter_120 : decode b_B_shorter 120 = .ok (.iinc 6 1, 3) := by decide +kernel
theorem d_B_shorter_123 : decode b_B_shorter 123 = .ok (.goto (-102), 3) := by decide +kernel
theorem d_B_shorter_126 : decode b_B_shorter 126 = .ok (.iload 5, 2) := by decide +kernel
theorem d_B_shorter_128 : decode b_B_shorter 128 = .ok (.ireturn, 1) := by decide +kernel
end
section
-- CellBench reduced (II)J
def f_B_reduced (td : Nat → P6) (lw : Nat → P6) (sy : Nat → Int32) (sh : Nat → Int32) (kn : Nat) (cl : Int32) (wh : Int32) : Option (Int64) :=
    if inb cl kn = true then (if wh = (6 : Int32) then (some ((sy cl.toNatClampNeg).toInt64)) else (if wh = (7 : Int32) then (some (f_P_det ((lw cl.toNatClampNeg).1) ((lw cl.toNatClampNeg).2.1) ((lw cl.toNatClampNeg).2.2.1) ((lw cl.toNatClampNeg).2.2.2.1) ((lw cl.toNatClampNeg).2.2.2.2.1) ((lw cl.toNatClampNeg).2.2.2.2.2))) else (if wh = (8 : Int32) then (some ((sh cl.toNatClampNeg).toInt64)) else (some (f_P_at ((lw cl.toNatClampNeg).1) ((lw cl.toNatClampNeg).2.1) ((lw cl.toNatClampNeg).2.2.1) ((lw cl.toNatClampNeg).2.2.2.1) ((lw cl.toNatClampNeg).2.2.2.2.1) ((lw cl.toNatClampNeg).2.2.2.2.2) wh))))) else (some (0 : Int64))
def w_B_reduced : List Cond := .code y_B_reduced b_B_reduced 4 (some .long) :: GW
abbrev rm_B_reduced : Room := { frames := 1, cells := 0, slots := 0, locals := 21 }
theorem g_B_reduced : GoodIn GW w_B_reduced := gi tm_277
set_option maxHeartbeats 4000000 in
set_option maxRecDepth 100000 in
theorem c_B_reduced (l : Launch) (D : va_G) (ct : CT) (ws : va_W) (k0 : Nat) (k1 : Nat) (h0 : Nat) (h1 : Nat) (h2 : Nat) (h3 : Nat) (h5 : Nat) (ca : Nat → Nat) (ta : Nat → Nat) (la : Nat → Nat) (td : Nat → P6) (lw : Nat → P6) (sy : Nat → Int32) (sh : Nat → Int32) (kn : Nat) (cl : Int32) (wh : Int32) (hk0 : ws[k0]? = some (h0, .inr (4, [.ref h1, .ref h2, .ref h3, .ref h5, .int (nI kn)]))) (hk1 : ws[k1]? = some (h1, .inl (ct.2.1, 40, .inr (.inr (.inr (.inr (cfun kn ca))))))) (hk40 : kn ≤ 40) (hpool : PoolIn ws ca ta la td lw sy sh kn) (r0 : Int64) (h : f_B_reduced td lw sy sh kn cl wh = some r0) : Met l y_B_reduced w_B_reduced rm_B_reduced (va_Pc [.ref h0, .int cl, .int wh] (PreP D ct ws)) (vp_Sl (fun r => r = r0)) 0 0 (fun _ => False) := by
  refine Met.ofW (cc := b_B_reduced) (maxL := 4) (ret := (some .long)) (by decide) rfl ?_
  intro p e s m args below meth c s₁ B hml hv
  obtain ⟨rfl, hP, hKK⟩ := hv
  have hx := B.exec
  have hb := B.bytes
  have hr := B.returns
  have htg := ht_tl (atoms_spec (ws := w_B_reduced) B.pre)
  have hown : s.vm.findClass R_Bench = some m.cls := findClass_of_methodNamed B.named
  have hlocks := B.notSynchronized
  have hK := hKK.1
  have hN := hKK.2.1
  have hO := hKK.2.2
  have hl := lv_entry ([.ref h0, .int cl, .int wh]) (n := 4) (Nat.le_of_ble_eq_true rfl)
  rw [lg_entry_eq]
  generalize (lg_sl ([.ref h0, .int cl, .int wh]) ++ List.replicate (4 - (lg_sl ([.ref h0, .int cl, .int wh])).length) Slot.unset).toArray = ls at hl ⊢
  have hl : lv_has ls 4 [(0, .ref h0), (1, .int cl), (2, .int wh)] := hl
  unfold f_B_reduced at h
  refine lv_aload_n hx hb d_B_reduced_0 rfl (lv_at hl 0 rfl) ?_
  refine lv_iload_n hx hb d_B_reduced_1 rfl (lv_at hl 1 rfl) ?_
  by_cases b_1 : inb cl kn = true
  · rw [if_pos b_1] at h
    obtain ⟨⟨kc_2, hkc_2⟩, ⟨kt_3, hkt_3⟩, ⟨kl_4, hkl_4⟩⟩ := hpool cl.toNatClampNeg (inb_lt b_1)
    refine va_csq (va_Run.run (va_runV (As := [.int cl]) (rest := []) ⟨hx, hb, hml, hown, htg⟩ (c_B_find l D ct ws k0 k1 h0 h1 h2 h3 h5 (nI kn) (cfun kn ca) cl hk0 hk1 _ (find_in hk40 b_1)) (cwV 1 htg (giV tm_278 tm_280 tm_11 tm_31 g_B_find) rfl rfl rfl (by decide +kernel) ⟨Nat.le_of_ble_eq_true rfl, Nat.le_of_ble_eq_true rfl⟩) (preV hP hKK (va_recv hK hP (ci := 4) (q0 := k0) rfl hk0)) rfl rfl hl.1 rfl (lv_room (Nat.le_of_ble_eq_true rfl)) d_B_reduced_2 ⟨Nat.le_of_ble_eq_true rfl, Nat.le_of_ble_eq_true rfl⟩)) (fun r9 hr9 => ?_)
    subst hr9
    refine W.eq (g2 := F0 m 5 ls [.ref (ca cl.toNatClampNeg)]) rfl ?_
    refine lv_astore_n (lv' := [(3, .ref (ca cl.toNatClampNeg)), (0, .ref h0), (1, .int cl), (2, .int wh)]) hx hb d_B_reduced_5 rfl hl (by decide) rfl (fun ls hl => ?_)
    refine lv_aload_n hx hb d_B_reduced_6 rfl (lv_at hl 0 rfl) ?_
    refine lv_ifnonnull (tgt := 12) hx hb d_B_reduced_7 (by decide) ?_
    refine lv_iload_n hx hb d_B_reduced_12 rfl (lv_at hl 3 rfl) ?_
    by_cases c_5 : wh = (6 : Int32)
    · rw [if_pos c_5] at h
      refine lv_tableIn (off := 27) (tgt := 40) hx hb d_B_reduced_13 (by rw [c_5]; decide) (by rw [c_5]; decide) (by rw [c_5]; rfl) (by decide) ?_
      refine lv_aload_n hx hb d_B_reduced_40 rfl (lv_at hl 0 rfl) ?_
      refine va_get (D := D) (ci := 3) (v := .int (sy cl.toNatClampNeg)) (C := R_Cell) (T := F_Cell) (N := 4) hx hb htg i_Cell hown hK hP kc_2 hkc_2 rfl 2 (by decide) (htg _ tm_262) (fun _ h9 => h9) rfl d_B_reduced_41 ?_
      refine lv_i2l hx hb d_B_reduced_44 rfl ?_
      exact W.lret (v := (sy cl.toNatClampNeg).toInt64) hx hb hr (fun t ht hW => ⟨(sy cl.toNatClampNeg).toInt64, rfl, (Option.some.inj h), ht⟩) (fun q h => by cases h) d_B_reduced_45
    rw [if_neg c_5] at h
    by_cases c_6 : wh = (7 : Int32)
    · rw [if_pos c_6] at h
      refine lv_tableIn (off := 33) (tgt := 46) hx hb d_B_reduced_13 (by rw [c_6]; decide) (by rw [c_6]; decide) (by rw [c_6]; rfl) (by decide) ?_
      refine lv_aload_n hx hb d_B_reduced_46 rfl (lv_at hl 0 rfl) ?_
      refine va_get (D := D) (ci := 3) (v := .ref (la cl.toNatClampNeg)) (C := R_Cell) (T := F_Cell) (N := 4) hx hb htg i_Cell hown hK hP kc_2 hkc_2 rfl 1 (by decide) (htg _ tm_260) (fun _ h9 => h9) rfl d_B_reduced_47 ?_
      refine vp_callSl (va_Run.run (va_runV (As := []) (rest := []) ⟨hx, hb, hml, hown, htg⟩ (c_P_det l D ct ws kl_4 (la cl.toNatClampNeg) ((lw cl.toNatClampNeg).1) ((lw cl.toNatClampNeg).2.1) ((lw cl.toNatClampNeg).2.2.1) ((lw cl.toNatClampNeg).2.2.2.1) ((lw cl.toNatClampNeg).2.2.2.2.1) ((lw cl.toNatClampNeg).2.2.2.2.2) hkl_4  _ rfl) (cwV 0 htg (giV tm_282 tm_163 tm_164 tm_35 g_P_det) rfl rfl rfl (by decide +kernel) ⟨Nat.le_of_ble_eq_true rfl, Nat.le_of_ble_eq_true rfl⟩) (preV hP hKK (va_recv hK hP (ci := 0) (q0 := kl_4) rfl hkl_4)) rfl rfl hl.1 rfl (lv_room (Nat.le_of_ble_eq_true rfl)) d_B_reduced_50 ⟨Nat.le_of_ble_eq_true rfl, Nat.le_of_ble_eq_true rfl⟩)) (fun r9 hr9 => ?_)
      subst hr9
      exact W.lret (v := f_P_det ((lw cl.toNatClampNeg).1) ((lw cl.toNatClampNeg).2.1) ((lw cl.toNatClampNeg).2.2.1) ((lw cl.toNatClampNeg).2.2.2.1) ((lw cl.toNatClampNeg).2.2.2.2.1) ((lw cl.toNatClampNeg).2.2.2.2.2)) hx hb hr (fun t ht hW => ⟨f_P_det ((lw cl.toNatClampNeg).1) ((lw cl.toNatClampNeg).2.1) ((lw cl.toNatClampNeg).2.2.1) ((lw cl.toNatClampNeg).2.2.2.1) ((lw cl.toNatClampNeg).2.2.2.2.1) ((lw cl.toNatClampNeg).2.2.2.2.2), rfl, (Option.some.inj h), ht⟩) (fun q h => by cases h) d_B_reduced_53
    rw [if_neg c_6] at h
    by_cases c_7 : wh = (8 : Int32)
    · rw [if_pos c_7] at h
      refine lv_tableIn (off := 41) (tgt := 54) hx hb d_B_reduced_13 (by rw [c_7]; decide) (by rw [c_7]; decide) (by rw [c_7]; rfl) (by decide) ?_
      refine lv_aload_n hx hb d_B_reduced_54 rfl (lv_at hl 0 rfl) ?_
      refine va_get (D := D) (ci := 3) (v := .int (sh cl.toNatClampNeg)) (C := R_Cell) (T := F_Cell) (N := 4) hx hb htg i_Cell hown hK hP kc_2 hkc_2 rfl 3 (by decide) (htg _ tm_264) (fun _ h9 => h9) rfl d_B_reduced_55 ?_
      refine lv_i2l hx hb d_B_reduced_58 rfl ?_
      exact W.lret (v := (sh cl.toNatClampNeg).toInt64) hx hb hr (fun t ht hW => ⟨(sh cl.toNatClampNeg).toInt64, rfl, (Option.some.inj h), ht⟩) (fun q h => by cases h) d_B_reduced_59
    rw [if_neg c_7] at h
    refine lv_tableOut (tgt := 60) hx hb d_B_reduced_13 (by have z0 := lv_neT (a := 6) c_5 (by decide); have z1 := lv_neT (a := 7) c_6 (by decide); have z2 := lv_neT (a := 8) c_7 (by decide); omega) (by decide) ?_
    refine lv_aload_n hx hb d_B_reduced_60 rfl (lv_at hl 0 rfl) ?_
    refine va_get (D := D) (ci := 3) (v := .ref (la cl.toNatClampNeg)) (C := R_Cell) (T := F_Cell) (N := 4) hx hb htg i_Cell hown hK hP kc_2 hkc_2 rfl 1 (by decide) (htg _ tm_260) (fun _ h9 => h9) rfl d_B_reduced_61 ?_
    refine lv_iload_n hx hb d_B_reduced_64 rfl (lv_at hl 3 rfl) ?_
    refine vp_callSl (va_Run.run (va_runV (As := [.int wh]) (rest := []) ⟨hx, hb, hml, hown, htg⟩ (c_P_at l D ct ws kl_4 (la cl.toNatClampNeg) ((lw cl.toNatClampNeg).1) ((lw cl.toNatClampNeg).2.1) ((lw cl.toNatClampNeg).2.2.1) ((lw cl.toNatClampNeg).2.2.2.1) ((lw cl.toNatClampNeg).2.2.2.2.1) ((lw cl.toNatClampNeg).2.2.2.2.2) wh hkl_4  _ rfl) (cwV 1 htg (giV tm_283 tm_284 tm_285 tm_35 g_P_at) rfl rfl rfl (by decide +kernel) ⟨Nat.le_of_ble_eq_true rfl, Nat.le_of_ble_eq_true rfl⟩) (preV hP hKK (va_recv hK hP (ci := 0) (q0 := kl_4) rfl hkl_4)) rfl rfl hl.1 rfl (lv_room (Nat.le_of_ble_eq_true rfl)) d_B_reduced_65 ⟨Nat.le_of_ble_eq_true rfl, Nat.le_of_ble_eq_true rfl⟩)) (fun r9 hr9 => ?_)
    subst hr9
    exact W.lret (v := f_P_at ((lw cl.toNatClampNeg).1) ((lw cl.toNatClampNeg).2.1) ((lw cl.toNatClampNeg).2.2.1) ((lw cl.toNatClampNeg).2.2.2.1) ((lw cl.toNatClampNeg).2.2.2.2.1) ((lw cl.toNatClampNeg).2.2.2.2.2) wh) hx hb hr (fun t ht hW => ⟨f_P_at ((lw cl.toNatClampNeg).1) ((lw cl.toNatClampNeg).2.1) ((lw cl.toNatClampNeg).2.2.1) ((lw cl.toNatClampNeg).2.2.2.1) ((lw cl.toNatClampNeg).2.2.2.2.1) ((lw cl.toNatClampNeg).2.2.2.2.2) wh, rfl, (Option.some.inj h), ht⟩) (fun q h => by cases h) d_B_reduced_68
  · rw [if_neg b_1] at h
    refine va_csq (va_Run.run (va_runV (As := [.int cl]) (rest := []) ⟨hx, hb, hml, hown, htg⟩ (c_B_find l D ct ws k0 k1 h0 h1 h2 h3 h5 (nI kn) (cfun kn ca) cl hk0 hk1 _ (find_out hk40 b_1)) (cwV 1 htg (giV tm_278 tm_280 tm_11 tm_31 g_B_find) rfl rfl rfl (by decide +kernel) ⟨Nat.le_of_ble_eq_true rfl, Nat.le_of_ble_eq_true rfl⟩) (preV hP hKK (va_recv hK hP (ci := 4) (q0 := k0) rfl hk0)) rfl rfl hl.1 rfl (lv_room (Nat.le_of_ble_eq_true rfl)) d_B_reduced_2 ⟨Nat.le_of_ble_eq_true rfl, Nat.le_of_ble_eq_true rfl⟩)) (fun r9 hr9 => ?_)
    subst hr9
    refine W.eq (g2 := F0 m 5 ls [.null]) rfl ?_
    refine lv_astore_nN (lv' := [(3, .null), (0, .ref h0), (1, .int cl), (2, .int wh)]) hx hb d_B_reduced_5 rfl hl (by decide) rfl (fun ls hl => ?_)
    refine lv_aload_nN hx hb d_B_reduced_6 rfl (lv_at hl 0 rfl) ?_
    refine lv_ifnonnullN hx hb d_B_reduced_7 ?_
    refine lv_lconst (v := (0 : Int64)) hx hb d_B_reduced_10 (by decide) ?_
    exact W.lret (v := (0 : Int64)) hx hb hr (fun t ht hW => ⟨(0 : Int64), rfl, (Option.some.inj h), ht⟩) (fun q h => by cases h) d_B_reduced_11
-- CellBench keeps (II)Z
def f_B_keeps (td : Nat → P6) (lw : Nat → P6) (sy : Nat → Int32) (sh : Nat → Int32) (kn : Nat) (cl : Int32) (ni : Int32) : Option (Int32) :=
    if inb cl kn = true then (if ni < 0 then (some (0 : Int32)) else (if ni < (19683 : Int32) then (some (f_P_kept ((td cl.toNatClampNeg).1) ((td cl.toNatClampNeg).2.1) ((td cl.toNatClampNeg).2.2.1) ((td cl.toNatClampNeg).2.2.2.1) ((td cl.toNatClampNeg).2.2.2.2.1) ((td cl.toNatClampNeg).2.2.2.2.2) (f_columnAtEnd (ni / (9 : Int32))) (f_columnAtEnd (ni / (3 : Int32))) (f_columnAtEnd ni))) else (some (0 : Int32)))) else (some (0 : Int32))
def w_B_keeps : List Cond := .code y_B_keeps b_B_keeps 4 (some .boolean) :: GW
abbrev rm_B_keeps : Room := { frames := 4, cells := 0, slots := 0, locals := 100 }
theorem g_B_keeps : GoodIn GW w_B_keeps := gi tm_290
set_option maxHeartbeats 4000000 in
set_option maxRecDepth 100000 in
theorem c_B_keeps (l : Launch) (D : va_G) (ct : CT) (ws : va_W) (k0 : Nat) (k1 : Nat) (h0 : Nat) (h1 : Nat) (h2 : Nat) (h3 : Nat) (h5 : Nat) (ca : Nat → Nat) (ta : Nat → Nat) (la : Nat → Nat) (td : Nat → P6) (lw : Nat → P6) (sy : Nat → Int32) (sh : Nat → Int32) (kn : Nat) (cl : Int32) (ni : Int32) (hk0 : ws[k0]? = some (h0, .inr (4, [.ref h1, .ref h2, .ref h3, .ref h5, .int (nI kn)]))) (hk1 : ws[k1]? = some (h1, .inl (ct.2.1, 40, .inr (.inr (.inr (.inr (cfun kn ca))))))) (hk40 : kn ≤ 40) (hpool : PoolIn ws ca ta la td lw sy sh kn) (r0 : Int32) (h : f_B_keeps td lw sy sh kn cl ni = some r0) : Met l y_B_keeps w_B_keeps rm_B_keeps (va_Pc [.ref h0, .int cl, .int ni] (PreP D ct ws)) (vp_Si (fun r => r = r0)) 0 0 (fun _ => False) := by
  refine Met.ofW (cc := b_B_keeps) (maxL := 4) (ret := (some .boolean)) (by decide) rfl ?_
  intro p e s m args below meth c s₁ B hml hv
  obtain ⟨rfl, hP, hKK⟩ := hv
  have hx := B.exec
  have hb := B.bytes
  have hr := B.returns
  have htg := ht_tl (atoms_spec (ws := w_B_keeps) B.pre)
  have hown : s.vm.findClass R_Bench = some m.cls := findClass_of_methodNamed B.named
  have hlocks := B.notSynchronized
  have hK := hKK.1
  have hN := hKK.2.1
  have hO := hKK.2.2
  have hl := lv_entry ([.ref h0, .int cl, .int ni]) (n := 4) (Nat.le_of_ble_eq_true rfl)
  rw [lg_entry_eq]
  generalize (lg_sl ([.ref h0, .int cl, .int ni]) ++ List.replicate (4 - (lg_sl ([.ref h0, .int cl, .int ni])).length) Slot.unset).toArray = ls at hl ⊢
  have hl : lv_has ls 4 [(0, .ref h0), (1, .int cl), (2, .int ni)] := hl
  unfold f_B_keeps at h
  refine lv_aload_n hx hb d_B_keeps_0 rfl (lv_at hl 0 rfl) ?_
  refine lv_iload_n hx hb d_B_keeps_1 rfl (lv_at hl 1 rfl) ?_
  by_cases b_1 : inb cl kn = true
  · rw [if_pos b_1] at h
    obtain ⟨⟨kc_2, hkc_2⟩, ⟨kt_3, hkt_3⟩, ⟨kl_4, hkl_4⟩⟩ := hpool cl.toNatClampNeg (inb_lt b_1)
    refine va_csq (va_Run.run (va_runV (As := [.int cl]) (rest := []) ⟨hx, hb, hml, hown, htg⟩ (c_B_find l D ct ws k0 k1 h0 h1 h2 h3 h5 (nI kn) (cfun kn ca) cl hk0 hk1 _ (find_in hk40 b_1)) (cwV 1 htg (giV tm_278 tm_280 tm_11 tm_31 g_B_find) rfl rfl rfl (by decide +kernel) ⟨Nat.le_of_ble_eq_true rfl, Nat.le_of_ble_eq_true rfl⟩) (preV hP hKK (va_recv hK hP (ci := 4) (q0 := k0) rfl hk0)) rfl rfl hl.1 rfl (lv_room (Nat.le_of_ble_eq_true rfl)) d_B_keeps_2 ⟨Nat.le_of_ble_eq_true rfl, Nat.le_of_ble_eq_true rfl⟩)) (fun r9 hr9 => ?_)
    subst hr9
    refine W.eq (g2 := F0 m 5 ls [.ref (ca cl.toNatClampNeg)]) rfl ?_
    refine lv_astore_n (lv' := [(3, .ref (ca cl.toNatClampNeg)), (0, .ref h0), (1, .int cl), (2, .int ni)]) hx hb d_B_keeps_5 rfl hl (by decide) rfl (fun ls hl => ?_)
    refine lv_aload_n hx hb d_B_keeps_6 rfl (lv_at hl 0 rfl) ?_
    refine lv_ifnull hx hb d_B_keeps_7 ?_
    refine lv_iload_n hx hb d_B_keeps_10 rfl (lv_at hl 3 rfl) ?_
    refine lv_if_lt (tgt := 21) hx hb d_B_keeps_11 (by decide) (fun c_5 => ?_) (fun c_5 => ?_)
    · rw [if_pos c_5] at h
      refine lv_iconst (v := (0 : Int32)) hx hb d_B_keeps_21 (by decide) ?_
      exact W.zret (v := (0 : Int32)) (ty := .boolean) hx hb hr rfl (fun t ht hW => ⟨(0 : Int32), rfl, (Option.some.inj h), ht⟩) (fun q h => by cases h) d_B_keeps_22
    · rw [if_neg c_5] at h
      refine lv_iload_n hx hb d_B_keeps_14 rfl (lv_at hl 3 rfl) ?_
      refine lv_sipush (v := (19683 : Int32)) hx hb d_B_keeps_15 (by decide) ?_
      refine lv_icmp_lt (tgt := 23) hx hb d_B_keeps_18 (by decide) (fun c_6 => ?_) (fun c_6 => ?_)
      · rw [if_pos c_6] at h
        refine lv_aload_n hx hb d_B_keeps_23 rfl (lv_at hl 0 rfl) ?_
        refine va_get (D := D) (ci := 3) (v := .ref (ta cl.toNatClampNeg)) (C := R_Cell) (T := F_Cell) (N := 4) hx hb htg i_Cell hown hK hP kc_2 hkc_2 rfl 0 (by decide) (htg _ tm_258) (fun _ h9 => h9) rfl d_B_keeps_24 ?_
        refine lv_iload_n hx hb d_B_keeps_27 rfl (lv_at hl 3 rfl) ?_
        refine lv_bipush (v := (9 : Int32)) hx hb d_B_keeps_28 (by decide) ?_
        refine lv_idiv hx hb d_B_keeps_30 (by decide) ?_
        refine vp_callSi (va_Run.run (va_runS (As := [.int (ni / (9 : Int32))]) (rest := [.ref (ta cl.toNatClampNeg)]) ⟨hx, hb, hml, hown, htg⟩ (c_columnAtEnd l D ct ws  (ni / (9 : Int32))   _ rfl) (cwS 1 htg (giS tm_291 tm_292 tm_31 g_columnAtEnd) rfl rfl rfl (by decide +kernel) ⟨Nat.le_of_ble_eq_true rfl, Nat.le_of_ble_eq_true rfl⟩) (preS hP hKK) rfl rfl hl.1 rfl (lv_room (Nat.le_of_ble_eq_true rfl)) d_B_keeps_31 ⟨Nat.le_of_ble_eq_true rfl, Nat.le_of_ble_eq_true rfl⟩)) (fun r9 hr9 => ?_)
        subst hr9
        refine lv_iload_n hx hb d_B_keeps_34 rfl (lv_at hl 3 rfl) ?_
        refine lv_iconst (v := (3 : Int32)) hx hb d_B_keeps_35 (by decide) ?_
        refine lv_idiv hx hb d_B_keeps_36 (by decide) ?_
        refine vp_callSi (va_Run.run (va_runS (As := [.int (ni / (3 : Int32))]) (rest := [.int (f_columnAtEnd (ni / (9 : Int32))), .ref (ta cl.toNatClampNeg)]) ⟨hx, hb, hml, hown, htg⟩ (c_columnAtEnd l D ct ws  (ni / (3 : Int32))   _ rfl) (cwS 1 htg (giS tm_291 tm_292 tm_31 g_columnAtEnd) rfl rfl rfl (by decide +kernel) ⟨Nat.le_of_ble_eq_true rfl, Nat.le_of_ble_eq_true rfl⟩) (preS hP hKK) rfl rfl hl.1 rfl (lv_room (Nat.le_of_ble_eq_true rfl)) d_B_keeps_37 ⟨Nat.le_of_ble_eq_true rfl, Nat.le_of_ble_eq_true rfl⟩)) (fun r9 hr9 => ?_)
        subst hr9
        refine lv_iload_n hx hb d_B_keeps_40 rfl (lv_at hl 3 rfl) ?_
        refine vp_callSi (va_Run.run (va_runS (As := [.int ni]) (rest := [.int (f_columnAtEnd (ni / (3 : Int32))), .int (f_columnAtEnd (ni / (9 : Int32))), .ref (ta cl.toNatClampNeg)]) ⟨hx, hb, hml, hown, htg⟩ (c_columnAtEnd l D ct ws  ni   _ rfl) (cwS 1 htg (giS tm_291 tm_292 tm_31 g_columnAtEnd) rfl rfl rfl (by decide +kernel) ⟨Nat.le_of_ble_eq_true rfl, Nat.le_of_ble_eq_true rfl⟩) (preS hP hKK) rfl rfl hl.1 rfl (lv_room (Nat.le_of_ble_eq_true rfl)) d_B_keeps_41 ⟨Nat.le_of_ble_eq_true rfl, Nat.le_of_ble_eq_true rfl⟩)) (fun r9 hr9 => ?_)
        subst hr9
        refine vp_callSi (va_Run.run (va_runV (As := [.int (f_columnAtEnd (ni / (9 : Int32))), .int (f_columnAtEnd (ni / (3 : Int32))), .int (f_columnAtEnd ni)]) (rest := []) ⟨hx, hb, hml, hown, htg⟩ (c_P_kept l D ct ws kt_3 (ta cl.toNatClampNeg) ((td cl.toNatClampNeg).1) ((td cl.toNatClampNeg).2.1) ((td cl.toNatClampNeg).2.2.1) ((td cl.toNatClampNeg).2.2.2.1) ((td cl.toNatClampNeg).2.2.2.2.1) ((td cl.toNatClampNeg).2.2.2.2.2) (f_columnAtEnd (ni / (9 : Int32))) (f_columnAtEnd (ni / (3 : Int32))) (f_columnAtEnd ni) hkt_3  _ rfl) (cwV 3 htg (giV tm_294 tm_295 tm_296 tm_35 g_P_kept) rfl rfl rfl (by decide +kernel) ⟨Nat.le_of_ble_eq_true rfl, Nat.le_of_ble_eq_true rfl⟩) (preV hP hKK (va_recv hK hP (ci := 0) (q0 := kt_3) rfl hkt_3)) rfl rfl hl.1 rfl (lv_room (Nat.le_of_ble_eq_true rfl)) d_B_keeps_44 ⟨Nat.le_of_ble_eq_true rfl, Nat.le_of_ble_eq_true rfl⟩)) (fun r9 hr9 => ?_)
        subst hr9
        exact W.zret (v := f_P_kept ((td cl.toNatClampNeg).1) ((td cl.toNatClampNeg).2.1) ((td cl.toNatClampNeg).2.2.1) ((td cl.toNatClampNeg).2.2.2.1) ((td cl.toNatClampNeg).2.2.2.2.1) ((td cl.toNatClampNeg).2.2.2.2.2) (f_columnAtEnd (ni / (9 : Int32))) (f_columnAtEnd (ni / (3 : Int32))) (f_columnAtEnd ni)) (ty := .boolean) hx hb hr (nb_of (kept01 _ _ _ _ _ _ _ _ _)) (fun t ht hW => ⟨f_P_kept ((td cl.toNatClampNeg).1) ((td cl.toNatClampNeg).2.1) ((td cl.toNatClampNeg).2.2.1) ((td cl.toNatClampNeg).2.2.2.1) ((td cl.toNatClampNeg).2.2.2.2.1) ((td cl.toNatClampNeg).2.2.2.2.2) (f_columnAtEnd (ni / (9 : Int32))) (f_columnAtEnd (ni / (3 : Int32))) (f_columnAtEnd ni), rfl, (Option.some.inj h), ht⟩) (fun q h => by cases h) d_B_keeps_47
      · rw [if_neg c_6] at h
        refine lv_iconst (v := (0 : Int32)) hx hb d_B_keeps_21 (by decide) ?_
        exact W.zret (v := (0 : Int32)) (ty := .boolean) hx hb hr rfl (fun t ht hW => ⟨(0 : Int32), rfl, (Option.some.inj h), ht⟩) (fun q h => by cases h) d_B_keeps_22
  · rw [if_neg b_1] at h
    refine va_csq (va_Run.run (va_runV (As := [.int cl]) (rest := []) ⟨hx, hb, hml, hown, htg⟩ (c_B_find l D ct ws k0 k1 h0 h1 h2 h3 h5 (nI kn) (cfun kn ca) cl hk0 hk1 _ (find_out hk40 b_1)) (cwV 1 htg (giV tm_278 tm_280 tm_11 tm_31 g_B_find) rfl rfl rfl (by decide +kernel) ⟨Nat.le_of_ble_eq_true rfl, Nat.le_of_ble_eq_true rfl⟩) (preV hP hKK (va_recv hK hP (ci := 4) (q0 := k0) rfl hk0)) rfl rfl hl.1 rfl (lv_room (Nat.le_of_ble_eq_true rfl)) d_B_keeps_2 ⟨Nat.le_of_ble_eq_true rfl, Nat.le_of_ble_eq_true rfl⟩)) (fun r9 hr9 => ?_)
    subst hr9
    refine W.eq (g2 := F0 m 5 ls [.null]) rfl ?_
    refine lv_astore_nN (lv' := [(3, .null), (0, .ref h0), (1, .int cl), (2, .int ni)]) hx hb d_B_keeps_5 rfl hl (by decide) rfl (fun ls hl => ?_)
    refine lv_aload_nN hx hb d_B_keeps_6 rfl (lv_at hl 0 rfl) ?_
    refine lv_ifnullN (tgt := 21) hx hb d_B_keeps_7 (by decide) ?_
    refine lv_iconst (v := (0 : Int32)) hx hb d_B_keeps_21 (by decide) ?_
    exact W.zret (v := (0 : Int32)) (ty := .boolean) hx hb hr rfl (fun t ht hW => ⟨(0 : Int32), rfl, (Option.some.inj h), ht⟩) (fun q h => by cases h) d_B_keeps_22
-- CellBench step (IIII)J
def f_B_step (td : Nat → P6) (lw : Nat → P6) (sy : Nat → Int32) (sh : Nat → Int32) (kn : Nat) (cl : Int32) (x_ : Int32) (y_ : Int32) (z_ : Int32) : Option (Int64) :=
    if inb cl kn = true then (if (f_isRouteNumber x_) = 0 then (some (0 : Int64)) else (if (f_isRouteNumber y_) = 0 then (some (0 : Int64)) else (if (f_isRouteNumber z_) = 0 then (some (0 : Int64)) else (some (f_P_prod ((td cl.toNatClampNeg).1) ((td cl.toNatClampNeg).2.1) ((td cl.toNatClampNeg).2.2.1) ((td cl.toNatClampNeg).2.2.2.1) ((td cl.toNatClampNeg).2.2.2.2.1) ((td cl.toNatClampNeg).2.2.2.2.2) (x_.toInt64) (y_.toInt64) (z_.toInt64) (x_.toInt64) (y_.toInt64) (z_.toInt64)))))) else (some (0 : Int64))
def w_B_step : List Cond := .code y_B_step b_B_step 6 (some .long) :: GW
abbrev rm_B_step : Room := { frames := 1, cells := 0, slots := 0, locals := 32 }
theorem g_B_step : GoodIn GW w_B_step := gi tm_383
set_option maxHeartbeats 4000000 in
set_option maxRecDepth 100000 in
theorem c_B_step (l : Launch) (D : va_G) (ct : CT) (ws : va_W) (k0 : Nat) (k1 : Nat) (h0 : Nat) (h1 : Nat) (h2 : Nat) (h3 : Nat) (h5 : Nat) (ca : Nat → Nat) (ta : Nat → Nat) (la : Nat → Nat) (td : Nat → P6) (lw : Nat → P6) (sy : Nat → Int32) (sh : Nat → Int32) (kn : Nat) (cl : Int32) (x_ : Int32) (y_ : Int32) (z_ : Int32) (hk0 : ws[k0]? = some (h0, .inr (4, [.ref h1, .ref h2, .ref h3, .ref h5, .int (nI kn)]))) (hk1 : ws[k1]? = some (h1, .inl (ct.2.1, 40, .inr (.inr (.inr (.inr (cfun kn ca))))))) (hk40 : kn ≤ 40) (hpool : PoolIn ws ca ta la td lw sy sh kn) (r0 : Int64) (h : f_B_step td lw sy sh kn cl x_ y_ z_ = some r0) : Met l y_B_step w_B_step rm_B_step (va_Pc [.ref h0, .int cl, .int x_, .int y_, .int z_] (PreP D ct ws)) (vp_Sl (fun r => r = r0)) 0 0 (fun _ => False) := by
  refine Met.ofW (cc := b_B_step) (maxL := 6) (ret := (some .long)) (by decide) rfl ?_
  intro p e s m args below meth c s₁ B hml hv
  obtain ⟨rfl, hP, hKK⟩ := hv
  have hx := B.exec
  have hb := B.bytes
  have hr := B.returns
  have htg := ht_tl (atoms_spec (ws := w_B_step) B.pre)
  have hown : s.vm.findClass R_Bench = some m.cls := findClass_of_methodNamed B.named
  have hlocks := B.notSynchronized
  have hK := hKK.1
  have hN := hKK.2.1
  have hO := hKK.2.2
  have hl := lv_entry ([.ref h0, .int cl, .int x_, .int y_, .int z_]) (n := 6) (Nat.le_of_ble_eq_true rfl)
  rw [lg_entry_eq]
  generalize (lg_sl ([.ref h0, .int cl, .int x_, .int y_, .int z_]) ++ List.replicate (6 - (lg_sl ([.ref h0, .int cl, .int x_, .int y_, .int z_])).length) Slot.unset).toArray = ls at hl ⊢
  have hl : lv_has ls 6 [(0, .ref h0), (1, .int cl), (2, .int x_), (3, .int y_), (4, .int z_)] := hl
  unfold f_B_step at h
  refine lv_aload_n hx hb d_B_step_0 rfl (lv_at hl 0 rfl) ?_
  refine lv_iload_n hx hb d_B_step_1 rfl (lv_at hl 1 rfl) ?_
  by_cases b_1 : inb cl kn = true
  · rw [if_pos b_1] at h
    obtain ⟨⟨kc_2, hkc_2⟩, ⟨kt_3, hkt_3⟩, ⟨kl_4, hkl_4⟩⟩ := hpool cl.toNatClampNeg (inb_lt b_1)
    refine va_csq (va_Run.run (va_runV (As := [.int cl]) (rest := []) ⟨hx, hb, hml, hown, htg⟩ (c_B_find l D ct ws k0 k1 h0 h1 h2 h3 h5 (nI kn) (cfun kn ca) cl hk0 hk1 _ (find_in hk40 b_1)) (cwV 1 htg (giV tm_278 tm_280 tm_11 tm_31 g_B_find) rfl rfl rfl (by decide +kernel) ⟨Nat.le_of_ble_eq_true rfl, Nat.le_of_ble_eq_true rfl⟩) (preV hP hKK (va_recv hK hP (ci := 4) (q0 := k0) rfl hk0)) rfl rfl hl.1 rfl (lv_room (Nat.le_of_ble_eq_true rfl)) d_B_step_2 ⟨Nat.le_of_ble_eq_true rfl, Nat.le_of_ble_eq_true rfl⟩)) (fun r9 hr9 => ?_)
    subst hr9
    refine W.eq (g2 := F0 m 5 ls [.ref (ca cl.toNatClampNeg)]) rfl ?_
    refine lv_astore (lv' := [(5, .ref (ca cl.toNatClampNeg)), (0, .ref h0), (1, .int cl), (2, .int x_), (3, .int y_), (4, .int z_)]) hx hb d_B_step_5 hl (by decide) rfl (fun ls hl => ?_)
    refine lv_aload hx hb d_B_step_7 (lv_at hl 0 rfl) ?_
    refine lv_ifnull hx hb d_B_step_9 ?_
    refine lv_iload_n hx hb d_B_step_12 rfl (lv_at hl 3 rfl) ?_
    refine vp_callSi (va_Run.run (va_runS (As := [.int x_]) (rest := []) ⟨hx, hb, hml, hown, htg⟩ (c_isRouteNumber l D ct ws  x_   _ rfl) (cwS 1 htg (giS tm_384 tm_385 tm_31 g_isRouteNumber) rfl rfl rfl (by decide +kernel) ⟨Nat.le_of_ble_eq_true rfl, Nat.le_of_ble_eq_true rfl⟩) (preS hP hKK) rfl rfl hl.1 rfl (lv_room (Nat.le_of_ble_eq_true rfl)) d_B_step_13 ⟨Nat.le_of_ble_eq_true rfl, Nat.le_of_ble_eq_true rfl⟩)) (fun r9 hr9 => ?_)
    subst hr9
    refine lv_if_eq (tgt := 34) hx hb d_B_step_16 (by decide) (fun c_5 => ?_) (fun c_5 => ?_)
    · rw [if_pos c_5] at h
      refine lv_lconst (v := (0 : Int64)) hx hb d_B_step_34 (by decide) ?_
      exact W.lret (v := (0 : Int64)) hx hb hr (fun t ht hW => ⟨(0 : Int64), rfl, (Option.some.inj h), ht⟩) (fun q h => by cases h) d_B_step_35
    · rw [if_neg c_5] at h
      refine lv_iload_n hx hb d_B_step_19 rfl (lv_at hl 4 rfl) ?_
      refine vp_callSi (va_Run.run (va_runS (As := [.int y_]) (rest := []) ⟨hx, hb, hml, hown, htg⟩ (c_isRouteNumber l D ct ws  y_   _ rfl) (cwS 1 htg (giS tm_384 tm_385 tm_31 g_isRouteNumber) rfl rfl rfl (by decide +kernel) ⟨Nat.le_of_ble_eq_true rfl, Nat.le_of_ble_eq_true rfl⟩) (preS hP hKK) rfl rfl hl.1 rfl (lv_room (Nat.le_of_ble_eq_true rfl)) d_B_step_20 ⟨Nat.le_of_ble_eq_true rfl, Nat.le_of_ble_eq_true rfl⟩)) (fun r9 hr9 => ?_)
      subst hr9
      refine lv_if_eq (tgt := 34) hx hb d_B_step_23 (by decide) (fun c_6 => ?_) (fun c_6 => ?_)
      · rw [if_pos c_6] at h
        refine lv_lconst (v := (0 : Int64)) hx hb d_B_step_34 (by decide) ?_
        exact W.lret (v := (0 : Int64)) hx hb hr (fun t ht hW => ⟨(0 : Int64), rfl, (Option.some.inj h), ht⟩) (fun q h => by cases h) d_B_step_35
      · rw [if_neg c_6] at h
        refine lv_iload hx hb d_B_step_26 (lv_at hl 5 rfl) ?_
        refine vp_callSi (va_Run.run (va_runS (As := [.int z_]) (rest := []) ⟨hx, hb, hml, hown, htg⟩ (c_isRouteNumber l D ct ws  z_   _ rfl) (cwS 1 htg (giS tm_384 tm_385 tm_31 g_isRouteNumber) rfl rfl rfl (by decide +kernel) ⟨Nat.le_of_ble_eq_true rfl, Nat.le_of_ble_eq_true rfl⟩) (preS hP hKK) rfl rfl hl.1 rfl (lv_room (Nat.le_of_ble_eq_true rfl)) d_B_step_28 ⟨Nat.le_of_ble_eq_true rfl, Nat.le_of_ble_eq_true rfl⟩)) (fun r9 hr9 => ?_)
        subst hr9
        refine lv_if_ne (tgt := 36) hx hb d_B_step_31 (by decide) (fun c_7 => ?_) (fun c_7 => ?_)
        · rw [if_neg c_7] at h
          refine lv_aload hx hb d_B_step_36 (lv_at hl 0 rfl) ?_
          refine va_get (D := D) (ci := 3) (v := .ref (ta cl.toNatClampNeg)) (C := R_Cell) (T := F_Cell) (N := 4) hx hb htg i_Cell hown hK hP kc_2 hkc_2 rfl 0 (by decide) (htg _ tm_258) (fun _ h9 => h9) rfl d_B_step_38 ?_
          refine lv_iload_n hx hb d_B_step_41 rfl (lv_at hl 3 rfl) ?_
          refine lv_i2l hx hb d_B_step_42 rfl ?_
          refine lv_iload_n hx hb d_B_step_43 rfl (lv_at hl 4 rfl) ?_
          refine lv_i2l hx hb d_B_step_44 rfl ?_
          refine lv_iload hx hb d_B_step_45 (lv_at hl 5 rfl) ?_
          refine lv_i2l hx hb d_B_step_47 rfl ?_
          refine lv_iload_n hx hb d_B_step_48 rfl (lv_at hl 3 rfl) ?_
          refine lv_i2l hx hb d_B_step_49 rfl ?_
          refine lv_iload_n hx hb d_B_step_50 rfl (lv_at hl 4 rfl) ?_
          refine lv_i2l hx hb d_B_step_51 rfl ?_
          refine lv_iload hx hb d_B_step_52 (lv_at hl 5 rfl) ?_
          refine lv_i2l hx hb d_B_step_54 rfl ?_
          refine vp_callSl (va_Run.run (va_runV (As := [.long (x_.toInt64), .long (y_.toInt64), .long (z_.toInt64), .long (x_.toInt64), .long (y_.toInt64), .long (z_.toInt64)]) (rest := []) ⟨hx, hb, hml, hown, htg⟩ (c_P_prod l D ct ws kt_3 (ta cl.toNatClampNeg) ((td cl.toNatClampNeg).1) ((td cl.toNatClampNeg).2.1) ((td cl.toNatClampNeg).2.2.1) ((td cl.toNatClampNeg).2.2.2.1) ((td cl.toNatClampNeg).2.2.2.2.1) ((td cl.toNatClampNeg).2.2.2.2.2) (x_.toInt64) (y_.toInt64) (z_.toInt64) (x_.toInt64) (y_.toInt64) (z_.toInt64) hkt_3  _ rfl) (cwV 6 htg (giV tm_387 tm_234 tm_235 tm_35 g_P_prod) rfl rfl rfl (by decide +kernel) ⟨Nat.le_of_ble_eq_true rfl, Nat.le_of_ble_eq_true rfl⟩) (preV hP hKK (va_recv hK hP (ci := 0) (q0 := kt_3) rfl hkt_3)) rfl rfl hl.1 rfl (lv_room (Nat.le_of_ble_eq_true rfl)) d_B_step_55 ⟨Nat.le_of_ble_eq_true rfl, Nat.le_of_ble_eq_true rfl⟩)) (fun r9 hr9 => ?_)
          subst hr9
          exact W.lret (v := f_P_prod ((td cl.toNatClampNeg).1) ((td cl.toNatClampNeg).2.1) ((td cl.toNatClampNeg).2.2.1) ((td cl.toNatClampNeg).2.2.2.1) ((td cl.toNatClampNeg).2.2.2.2.1) ((td cl.toNatClampNeg).2.2.2.2.2) (x_.toInt64) (y_.toInt64) (z_.toInt64) (x_.toInt64) (y_.toInt64) (z_.toInt64)) hx hb hr (fun t ht hW => ⟨f_P_prod ((td cl.toNatClampNeg).1) ((td cl.toNatClampNeg).2.1) ((td cl.toNatClampNeg).2.2.1) ((td cl.toNatClampNeg).2.2.2.1) ((td cl.toNatClampNeg).2.2.2.2.1) ((td cl.toNatClampNeg).2.2.2.2.2) (x_.toInt64) (y_.toInt64) (z_.toInt64) (x_.toInt64) (y_.toInt64) (z_.toInt64), rfl, (Option.some.inj h), ht⟩) (fun q h => by cases h) d_B_step_58
        · rw [if_pos c_7] at h
          refine lv_lconst (v := (0 : Int64)) hx hb d_B_step_34 (by decide) ?_
          exact W.lret (v := (0 : Int64)) hx hb hr (fun t ht hW => ⟨(0 : Int64), rfl, (Option.some.inj h), ht⟩) (fun q h => by cases h) d_B_step_35
  · rw [if_neg b_1] at h
    refine va_csq (va_Run.run (va_runV (As := [.int cl]) (rest := []) ⟨hx, hb, hml, hown, htg⟩ (c_B_find l D ct ws k0 k1 h0 h1 h2 h3 h5 (nI kn) (cfun kn ca) cl hk0 hk1 _ (find_out hk40 b_1)) (cwV 1 htg (giV tm_278 tm_280 tm_11 tm_31 g_B_find) rfl rfl rfl (by decide +kernel) ⟨Nat.le_of_ble_eq_true rfl, Nat.le_of_ble_eq_true rfl⟩) (preV hP hKK (va_recv hK hP (ci := 4) (q0 := k0) rfl hk0)) rfl rfl hl.1 rfl (lv_room (Nat.le_of_ble_eq_true rfl)) d_B_step_2 ⟨Nat.le_of_ble_eq_true rfl, Nat.le_of_ble_eq_true rfl⟩)) (fun r9 hr9 => ?_)
    subst hr9
    refine W.eq (g2 := F0 m 5 ls [.null]) rfl ?_
    refine lv_astoreN (lv' := [(5, .null), (0, .ref h0), (1, .int cl), (2, .int x_), (3, .int y_), (4, .int z_)]) hx hb d_B_step_5 hl (by decide) rfl (fun ls hl => ?_)
    refine lv_aloadN hx hb d_B_step_7 (lv_at hl 0 rfl) ?_
    refine lv_ifnullN (tgt := 34) hx hb d_B_step_9 (by decide) ?_
    refine lv_lconst (v := (0 : Int64)) hx hb d_B_step_34 (by decide) ?_
    exact W.lret (v := (0 : Int64)) hx hb hr (fun t ht hW => ⟨(0 : Int64), rfl, (Option.some.inj h), ht⟩) (fun q h => by cases h) d_B_step_35
-- CellBench same (I)I
def lp_B_same_14 (td : Nat → P6) (lw : Nat → P6) (sy : Nat → Int32) (sh : Nat → Int32) (kn : Nat) (cl : Int32) : Nat → Int32 → Option (Int32)
  | 0, _ => none
  | n + 1, ix =>
    if cl ≤ ix then (some cl) else (if inb ix kn = true then (Option.bind (f_P_order ((lw ix.toNatClampNeg).1) ((lw ix.toNatClampNeg).2.1) ((lw ix.toNatClampNeg).2.2.1) ((lw ix.toNatClampNeg).2.2.2.1) ((lw ix.toNatClampNeg).2.2.2.2.1) ((lw ix.toNatClampNeg).2.2.2.2.2) ((lw cl.toNatClampNeg).1) ((lw cl.toNatClampNeg).2.1) ((lw cl.toNatClampNeg).2.2.1) ((lw cl.toNatClampNeg).2.2.2.1) ((lw cl.toNatClampNeg).2.2.2.2.1) ((lw cl.toNatClampNeg).2.2.2.2.2)) (fun z_13 => (if z_13 = 0 then (some ix) else (lp_B_same_14 td lw sy sh kn cl n (ix + (1 : Int32)))))) else (lp_B_same_14 td lw sy sh kn cl n (ix + (1 : Int32))))
def f_B_same (td : Nat → P6) (lw : Nat → P6) (sy : Nat → Int32) (sh : Nat → Int32) (kn : Nat) (cl : Int32) : Option (Int32) :=
    if inb cl kn = true then (lp_B_same_14 td lw sy sh kn cl 50 (0 : Int32)) else (some (-1 : Int32))
def w_B_same : List Cond := .code y_B_same b_B_same 5 (some .int) :: GW
abbrev rm_B_same : Room := { frames := 2, cells := 0, slots := 0, locals := 46 }
theorem g_B_same : GoodIn GW w_B_same := gi tm_301
set_option maxHeartbeats 4000000 in
set_option maxRecDepth 100000 in
theorem c_B_same (l : Launch) (D : va_G) (ct : CT) (ws : va_W) (k0 : Nat) (k1 : Nat) (h0 : Nat) (h1 : Nat) (h2 : Nat) (h3 : Nat) (h5 : Nat) (ca : Nat → Nat) (ta : Nat → Nat) (la : Nat → Nat) (td : Nat → P6) (lw : Nat → P6) (sy : Nat → Int32) (sh : Nat → Int32) (kn : Nat) (cl : Int32) (hk0 : ws[k0]? = some (h0, .inr (4, [.ref h1, .ref h2, .ref h3, .ref h5, .int (nI kn)]))) (hk1 : ws[k1]? = some (h1, .inl (ct.2.1, 40, .inr (.inr (.inr (.inr (cfun kn ca))))))) (hk40 : kn ≤ 40) (hpool : PoolIn ws ca ta la td lw sy sh kn) (r0 : Int32) (h : f_B_same td lw sy sh kn cl = some r0) : Met l y_B_same w_B_same rm_B_same (va_Pc [.ref h0, .int cl] (PreP D ct ws)) (vp_Si (fun r => r = r0)) 0 0 (fun _ => False) := by
  refine Met.ofW (cc := b_B_same) (maxL := 5) (ret := (some .int)) (by decide) rfl ?_
  intro p e s m args below meth c s₁ B hml hv
  obtain ⟨rfl, hP, hKK⟩ := hv
  have hx := B.exec
  have hb := B.bytes
  have hr := B.returns
  have htg := ht_tl (atoms_spec (ws := w_B_same) B.pre)
  have hown : s.vm.findClass R_Bench = some m.cls := findClass_of_methodNamed B.named
  have hlocks := B.notSynchronized
  have hK := hKK.1
  have hN := hKK.2.1
  have hO := hKK.2.2
  have hl := lv_entry ([.ref h0, .int cl]) (n := 5) (Nat.le_of_ble_eq_true rfl)
  rw [lg_entry_eq]
  generalize (lg_sl ([.ref h0, .int cl]) ++ List.replicate (5 - (lg_sl ([.ref h0, .int cl])).length) Slot.unset).toArray = ls at hl ⊢
  have hl : lv_has ls 5 [(0, .ref h0), (1, .int cl)] := hl
  unfold f_B_same at h
  refine lv_aload_n hx hb d_B_same_0 rfl (lv_at hl 0 rfl) ?_
  refine lv_iload_n hx hb d_B_same_1 rfl (lv_at hl 1 rfl) ?_
  by_cases b_1 : inb cl kn = true
  · rw [if_pos b_1] at h
    obtain ⟨⟨kc_2, hkc_2⟩, ⟨kt_3, hkt_3⟩, ⟨kl_4, hkl_4⟩⟩ := hpool cl.toNatClampNeg (inb_lt b_1)
    refine va_csq (va_Run.run (va_runV (As := [.int cl]) (rest := []) ⟨hx, hb, hml, hown, htg⟩ (c_B_find l D ct ws k0 k1 h0 h1 h2 h3 h5 (nI kn) (cfun kn ca) cl hk0 hk1 _ (find_in hk40 b_1)) (cwV 1 htg (giV tm_278 tm_280 tm_11 tm_31 g_B_find) rfl rfl rfl (by decide +kernel) ⟨Nat.le_of_ble_eq_true rfl, Nat.le_of_ble_eq_true rfl⟩) (preV hP hKK (va_recv hK hP (ci := 4) (q0 := k0) rfl hk0)) rfl rfl hl.1 rfl (lv_room (Nat.le_of_ble_eq_true rfl)) d_B_same_2 ⟨Nat.le_of_ble_eq_true rfl, Nat.le_of_ble_eq_true rfl⟩)) (fun r9 hr9 => ?_)
    subst hr9
    refine W.eq (g2 := F0 m 5 ls [.ref (ca cl.toNatClampNeg)]) rfl ?_
    refine lv_astore_n (lv' := [(2, .ref (ca cl.toNatClampNeg)), (0, .ref h0), (1, .int cl)]) hx hb d_B_same_5 rfl hl (by decide) rfl (fun ls hl => ?_)
    refine lv_aload_n hx hb d_B_same_6 rfl (lv_at hl 0 rfl) ?_
    refine lv_ifnonnull (tgt := 12) hx hb d_B_same_7 (by decide) ?_
    refine lv_iconst (v := (0 : Int32)) hx hb d_B_same_12 (by decide) ?_
    refine lv_istore_n (lv' := [(3, .int (0 : Int32)), (2, .ref (ca cl.toNatClampNeg)), (0, .ref h0), (1, .int cl)]) hx hb d_B_same_13 rfl hl (by decide) rfl (fun ls hl => ?_)
    have L_14 : ∀ (n : Nat) (ix : Int32) , lp_B_same_14 td lw sy sh kn cl n ix = some r0 → ∀ (ls : Array Slot), lv_has ls 5 [(3, .int ix), (2, .ref (ca cl.toNatClampNeg)), (0, .ref h0), (1, .int cl)] → W p l e (headSpec w_B_same rm_B_same).room s m ([.ref h0, .int cl] : List Value).toArray below meth c s.heap [] 0 0 (MQ below (vp_Si (fun r => r = r0)) ([.ref h0, .int cl] : List Value).toArray s 0 0 (fun _ => False)) (F0 m 14 ls []) := by
      intro n
      induction n with
      | zero =>
        intro ix  h
        rw [lp_B_same_14] at h
        cases h
      | succ n ih =>
        intro ix  h ls hl
        rw [lp_B_same_14] at h
        refine lv_iload_n hx hb d_B_same_14 rfl (lv_at hl 0 rfl) ?_
        refine lv_iload_n hx hb d_B_same_15 rfl (lv_at hl 3 rfl) ?_
        refine lv_icmp_ge (tgt := 54) hx hb d_B_same_16 (by decide) (fun c_5 => ?_) (fun c_5 => ?_)
        · rw [if_pos c_5] at h
          refine lv_iload_n hx hb d_B_same_54 rfl (lv_at hl 3 rfl) ?_
          exact W.iret (v := cl) hx hb hr (fun t ht hW => ⟨cl, rfl, (Option.some.inj h), ht⟩) (fun q h => by cases h) d_B_same_55
        · rw [if_neg c_5] at h
          refine lv_aload_n hx hb d_B_same_19 rfl (lv_at hl 2 rfl) ?_
          refine lv_iload_n hx hb d_B_same_20 rfl (lv_at hl 0 rfl) ?_
          by_cases b_6 : inb ix kn = true
          · rw [if_pos b_6] at h
            obtain ⟨⟨kc_7, hkc_7⟩, ⟨kt_8, hkt_8⟩, ⟨kl_9, hkl_9⟩⟩ := hpool ix.toNatClampNeg (inb_lt b_6)
            refine va_csq (va_Run.run (va_runV (As := [.int ix]) (rest := []) ⟨hx, hb, hml, hown, htg⟩ (c_B_find l D ct ws k0 k1 h0 h1 h2 h3 h5 (nI kn) (cfun kn ca) ix hk0 hk1 _ (find_in hk40 b_6)) (cwV 1 htg (giV tm_278 tm_280 tm_11 tm_31 g_B_find) rfl rfl rfl (by decide +kernel) ⟨Nat.le_of_ble_eq_true rfl, Nat.le_of_ble_eq_true rfl⟩) (preV hP hKK (va_recv hK hP (ci := 4) (q0 := k0) rfl hk0)) rfl rfl hl.1 rfl (lv_room (Nat.le_of_ble_eq_true rfl)) d_B_same_21 ⟨Nat.le_of_ble_eq_true rfl, Nat.le_of_ble_eq_true rfl⟩)) (fun r9 hr9 => ?_)
            subst hr9
            refine W.eq (g2 := F0 m 24 ls [.ref (ca ix.toNatClampNeg)]) rfl ?_
            refine lv_astore (lv' := [(4, .ref (ca ix.toNatClampNeg)), (3, .int ix), (2, .ref (ca cl.toNatClampNeg)), (0, .ref h0), (1, .int cl)]) hx hb d_B_same_24 hl (by decide) rfl (fun ls hl => ?_)
            refine lv_aload hx hb d_B_same_26 (lv_at hl 0 rfl) ?_
            refine lv_ifnull hx hb d_B_same_28 ?_
            refine lv_aload hx hb d_B_same_31 (lv_at hl 0 rfl) ?_
            refine va_get (D := D) (ci := 3) (v := .ref (la ix.toNatClampNeg)) (C := R_Cell) (T := F_Cell) (N := 4) hx hb htg i_Cell hown hK hP kc_7 hkc_7 rfl 1 (by decide) (htg _ tm_260) (fun _ h9 => h9) rfl d_B_same_33 ?_
            refine lv_aload_n hx hb d_B_same_36 rfl (lv_at hl 2 rfl) ?_
            refine va_get (D := D) (ci := 3) (v := .ref (la cl.toNatClampNeg)) (C := R_Cell) (T := F_Cell) (N := 4) hx hb htg i_Cell hown hK hP kc_2 hkc_2 rfl 1 (by decide) (htg _ tm_260) (fun _ h9 => h9) rfl d_B_same_37 ?_
            rcases e_10 : f_P_order ((lw ix.toNatClampNeg).1) ((lw ix.toNatClampNeg).2.1) ((lw ix.toNatClampNeg).2.2.1) ((lw ix.toNatClampNeg).2.2.2.1) ((lw ix.toNatClampNeg).2.2.2.2.1) ((lw ix.toNatClampNeg).2.2.2.2.2) ((lw cl.toNatClampNeg).1) ((lw cl.toNatClampNeg).2.1) ((lw cl.toNatClampNeg).2.2.1) ((lw cl.toNatClampNeg).2.2.2.1) ((lw cl.toNatClampNeg).2.2.2.2.1) ((lw cl.toNatClampNeg).2.2.2.2.2) with _ | v_11
            · rw [e_10] at h; cases h
            rw [e_10, Option.bind_some] at h
            try dsimp only at h
            refine vp_callSi (va_Run.run (va_runV (As := [.ref (la cl.toNatClampNeg)]) (rest := []) ⟨hx, hb, hml, hown, htg⟩ (c_P_order l D ct ws kl_9 kl_4 (la ix.toNatClampNeg) ((lw ix.toNatClampNeg).1) ((lw ix.toNatClampNeg).2.1) ((lw ix.toNatClampNeg).2.2.1) ((lw ix.toNatClampNeg).2.2.2.1) ((lw ix.toNatClampNeg).2.2.2.2.1) ((lw ix.toNatClampNeg).2.2.2.2.2) (la cl.toNatClampNeg) ((lw cl.toNatClampNeg).1) ((lw cl.toNatClampNeg).2.1) ((lw cl.toNatClampNeg).2.2.1) ((lw cl.toNatClampNeg).2.2.2.1) ((lw cl.toNatClampNeg).2.2.2.2.1) ((lw cl.toNatClampNeg).2.2.2.2.2) hkl_9 hkl_4  _ e_10) (cwV 1 htg (giV tm_302 tm_303 tm_304 tm_35 g_P_order) rfl rfl rfl (by decide +kernel) ⟨Nat.le_of_ble_eq_true rfl, Nat.le_of_ble_eq_true rfl⟩) (preV hP hKK (va_recv hK hP (ci := 0) (q0 := kl_9) rfl hkl_9)) rfl rfl hl.1 rfl (lv_room (Nat.le_of_ble_eq_true rfl)) d_B_same_40 ⟨Nat.le_of_ble_eq_true rfl, Nat.le_of_ble_eq_true rfl⟩)) (fun r9 hr9 => ?_)
            have hr9 := hr9.symm
            subst hr9
            refine lv_if_ne (tgt := 48) hx hb d_B_same_43 (by decide) (fun c_12 => ?_) (fun c_12 => ?_)
            · rw [if_neg c_12] at h
              refine lv_iinc (v := ix + (1 : Int32)) (lv' := [(3, .int (ix + (1 : Int32))), (4, .ref (ca ix.toNatClampNeg)), (2, .ref (ca cl.toNatClampNeg)), (0, .ref h0), (1, .int cl)]) hx hb d_B_same_48 hl (k := 1) rfl rfl (by decide) rfl (fun ls hl => ?_)
              refine lv_goto (tgt := 14) hx hb d_B_same_51 (by decide) ?_
              exact ih (ix + (1 : Int32)) h ls (lv_sub hl [0, 2, 3, 4] rfl)
            · rw [if_pos c_12] at h
              refine lv_iload_n hx hb d_B_same_46 rfl (lv_at hl 1 rfl) ?_
              exact W.iret (v := ix) hx hb hr (fun t ht hW => ⟨ix, rfl, (Option.some.inj h), ht⟩) (fun q h => by cases h) d_B_same_47
          · rw [if_neg b_6] at h
            refine va_csq (va_Run.run (va_runV (As := [.int ix]) (rest := []) ⟨hx, hb, hml, hown, htg⟩ (c_B_find l D ct ws k0 k1 h0 h1 h2 h3 h5 (nI kn) (cfun kn ca) ix hk0 hk1 _ (find_out hk40 b_6)) (cwV 1 htg (giV tm_278 tm_280 tm_11 tm_31 g_B_find) rfl rfl rfl (by decide +kernel) ⟨Nat.le_of_ble_eq_true rfl, Nat.le_of_ble_eq_true rfl⟩) (preV hP hKK (va_recv hK hP (ci := 4) (q0 := k0) rfl hk0)) rfl rfl hl.1 rfl (lv_room (Nat.le_of_ble_eq_true rfl)) d_B_same_21 ⟨Nat.le_of_ble_eq_true rfl, Nat.le_of_ble_eq_true rfl⟩)) (fun r9 hr9 => ?_)
            subst hr9
            refine W.eq (g2 := F0 m 24 ls [.null]) rfl ?_
            refine lv_astoreN (lv' := [(4, .null), (3, .int ix), (2, .ref (ca cl.toNatClampNeg)), (0, .ref h0), (1, .int cl)]) hx hb d_B_same_24 hl (by decide) rfl (fun ls hl => ?_)
            refine lv_aloadN hx hb d_B_same_26 (lv_at hl 0 rfl) ?_
            refine lv_ifnullN (tgt := 48) hx hb d_B_same_28 (by decide) ?_
            refine lv_iinc (v := ix + (1 : Int32)) (lv' := [(3, .int (ix + (1 : Int32))), (4, .null), (2, .ref (ca cl.toNatClampNeg)), (0, .ref h0), (1, .int cl)]) hx hb d_B_same_48 hl (k := 1) rfl rfl (by decide) rfl (fun ls hl => ?_)
            refine lv_goto (tgt := 14) hx hb d_B_same_51 (by decide) ?_
            exact ih (ix + (1 : Int32)) h ls (lv_sub hl [0, 2, 3, 4] rfl)
    exact L_14 50 (0 : Int32) h ls (lv_sub hl [0, 1, 2, 3] rfl)
  · rw [if_neg b_1] at h
    refine va_csq (va_Run.run (va_runV (As := [.int cl]) (rest := []) ⟨hx, hb, hml, hown, htg⟩ (c_B_find l D ct ws k0 k1 h0 h1 h2 h3 h5 (nI kn) (cfun kn ca) cl hk0 hk1 _ (find_out hk40 b_1)) (cwV 1 htg (giV tm_278 tm_280 tm_11 tm_31 g_B_find) rfl rfl rfl (by decide +kernel) ⟨Nat.le_of_ble_eq_true rfl, Nat.le_of_ble_eq_true rfl⟩) (preV hP hKK (va_recv hK hP (ci := 4) (q0 := k0) rfl hk0)) rfl rfl hl.1 rfl (lv_room (Nat.le_of_ble_eq_true rfl)) d_B_same_2 ⟨Nat.le_of_ble_eq_true rfl, Nat.le_of_ble_eq_true rfl⟩)) (fun r9 hr9 => ?_)
    subst hr9
    refine W.eq (g2 := F0 m 5 ls [.null]) rfl ?_
    refine lv_astore_nN (lv' := [(2, .null), (0, .ref h0), (1, .int cl)]) hx hb d_B_same_5 rfl hl (by decide) rfl (fun ls hl => ?_)
    refine lv_aload_nN hx hb d_B_same_6 rfl (lv_at hl 0 rfl) ?_
    refine lv_ifnonnullN hx hb d_B_same_7 ?_
    refine lv_iconst (v := (-1 : Int32)) hx hb d_B_same_10 (by decide) ?_
    exact W.iret (v := (-1 : Int32)) hx hb hr (fun t ht hW => ⟨(-1 : Int32), rfl, (Option.some.inj h), ht⟩) (fun q h => by cases h) d_B_same_11
-- CellBench shorter (IJ)I
def lp_B_shorter_41 (td : Nat → P6) (lw : Nat → P6) (sy : Nat → Int32) (sh : Nat → Int32) (kn : Nat) (cl : Int32) (ra_ : Int64) : Nat → Int32 → Int32 → Int32 → Int32 → Option (Int32 × Int32 × Int32 × Int32)
  | 0, _, _, _, _ => none
  | n + 1, wi, lx, ly, lz =>
    if (4 : Int32) < lz then (some (wi, lx, ly, lz)) else (if lx = 0 then (if ly = 0 then (if lz = 0 then (if (0 : Int32) = 0 then (lp_B_shorter_41 td lw sy sh kn cl ra_ n wi lx ly (lz + (1 : Int32))) else (if 0 < (lg_cmp (f_P_prod ((td cl.toNatClampNeg).1) ((td cl.toNatClampNeg).2.1) ((td cl.toNatClampNeg).2.2.1) ((td cl.toNatClampNeg).2.2.2.1) ((td cl.toNatClampNeg).2.2.2.2.1) ((td cl.toNatClampNeg).2.2.2.2.2) (lx.toInt64) (ly.toInt64) (lz.toInt64) (lx.toInt64) (ly.toInt64) (lz.toInt64)) ra_) then (lp_B_shorter_41 td lw sy sh kn cl ra_ n wi lx ly (lz + (1 : Int32))) else (lp_B_shorter_41 td lw sy sh kn cl ra_ n (wi + (1 : Int32)) lx ly (lz + (1 : Int32))))) else (if (1 : Int32) = 0 then (lp_B_shorter_41 td lw sy sh kn cl ra_ n wi lx ly (lz + (1 : Int32))) else (if 0 < (lg_cmp (f_P_prod ((td cl.toNatClampNeg).1) ((td cl.toNatClampNeg).2.1) ((td cl.toNatClampNeg).2.2.1) ((td cl.toNatClampNeg).2.2.2.1) ((td cl.toNatClampNeg).2.2.2.2.1) ((td cl.toNatClampNeg).2.2.2.2.2) (lx.toInt64) (ly.toInt64) (lz.toInt64) (lx.toInt64) (ly.toInt64) (lz.toInt64)) ra_) then (lp_B_shorter_41 td lw sy sh kn cl ra_ n wi lx ly (lz + (1 : Int32))) else (lp_B_shorter_41 td lw sy sh kn cl ra_ n (wi + (1 : Int32)) lx ly (lz + (1 : Int32)))))) else (if (1 : Int32) = 0 then (lp_B_shorter_41 td lw sy sh kn cl ra_ n wi lx ly (lz + (1 : Int32))) else (if 0 < (lg_cmp (f_P_prod ((td cl.toNatClampNeg).1) ((td cl.toNatClampNeg).2.1) ((td cl.toNatClampNeg).2.2.1) ((td cl.toNatClampNeg).2.2.2.1) ((td cl.toNatClampNeg).2.2.2.2.1) ((td cl.toNatClampNeg).2.2.2.2.2) (lx.toInt64) (ly.toInt64) (lz.toInt64) (lx.toInt64) (ly.toInt64) (lz.toInt64)) ra_) then (lp_B_shorter_41 td lw sy sh kn cl ra_ n wi lx ly (lz + (1 : Int32))) else (lp_B_shorter_41 td lw sy sh kn cl ra_ n (wi + (1 : Int32)) lx ly (lz + (1 : Int32)))))) else (if (1 : Int32) = 0 then (lp_B_shorter_41 td lw sy sh kn cl ra_ n wi lx ly (lz + (1 : Int32))) else (if 0 < (lg_cmp (f_P_prod ((td cl.toNatClampNeg).1) ((td cl.toNatClampNeg).2.1) ((td cl.toNatClampNeg).2.2.1) ((td cl.toNatClampNeg).2.2.2.1) ((td cl.toNatClampNeg).2.2.2.2.1) ((td cl.toNatClampNeg).2.2.2.2.2) (lx.toInt64) (ly.toInt64) (lz.toInt64) (lx.toInt64) (ly.toInt64) (lz.toInt64)) ra_) then (lp_B_shorter_41 td lw sy sh kn cl ra_ n wi lx ly (lz + (1 : Int32))) else (lp_B_shorter_41 td lw sy sh kn cl ra_ n (wi + (1 : Int32)) lx ly (lz + (1 : Int32))))))
def lp_B_shorter_31 (td : Nat → P6) (lw : Nat → P6) (sy : Nat → Int32) (sh : Nat → Int32) (kn : Nat) (cl : Int32) (ra_ : Int64) : Nat → Int32 → Int32 → Int32 → Option (Int32 × Int32 × Int32)
  | 0, _, _, _ => none
  | n + 1, wi, lx, ly =>
    if (4 : Int32) < ly then (some (wi, lx, ly)) else (Option.bind (lp_B_shorter_41 td lw sy sh kn cl ra_ 10 wi lx ly (-4 : Int32)) (fun z_24 => (lp_B_shorter_31 td lw sy sh kn cl ra_ n z_24.1 z_24.2.1 (z_24.2.2.1 + (1 : Int32)))))
def lp_B_shorter_21 (td : Nat → P6) (lw : Nat → P6) (sy : Nat → Int32) (sh : Nat → Int32) (kn : Nat) (cl : Int32) (ra_ : Int64) : Nat → Int32 → Int32 → Option (Int32)
  | 0, _, _ => none
  | n + 1, wi, lx =>
    if (4 : Int32) < lx then (some wi) else (Option.bind (lp_B_shorter_31 td lw sy sh kn cl ra_ 10 wi lx (-4 : Int32)) (fun z_29 => (lp_B_shorter_21 td lw sy sh kn cl ra_ n z_29.1 (z_29.2.1 + (1 : Int32)))))
def f_B_shorter (td : Nat → P6) (lw : Nat → P6) (sy : Nat → Int32) (sh : Nat → Int32) (kn : Nat) (cl : Int32) (ra_ : Int64) : Option (Int32) :=
    if inb cl kn = true then (lp_B_shorter_21 td lw sy sh kn cl ra_ 10 (0 : Int32) (-4 : Int32)) else (some (-1 : Int32))
def w_B_shorter : List Cond := .code y_B_shorter b_B_shorter 10 (some .int) :: GW
abbrev rm_B_shorter : Room := { frames := 1, cells := 0, slots := 0, locals := 32 }
theorem g_B_shorter : GoodIn GW w_B_shorter := gi tm_391
set_option maxHeartbeats 4000000 in
set_option maxRecDepth 100000 in
theorem c_B_shorter (l : Launch) (D : va_G) (ct : CT) (ws : va_W) (k0 : Nat) (k1 : Nat) (h0 : Nat) (h1 : Nat) (h2 : Nat) (h3 : Nat) (h5 : Nat) (ca : Nat → Nat) (ta : Nat → Nat) (la : Nat → Nat) (td : Nat → P6) (lw : Nat → P6) (sy : Nat → Int32) (sh : Nat → Int32) (kn : Nat) (cl : Int32) (ra_ : Int64) (hk0 : ws[k0]? = some (h0, .inr (4, [.ref h1, .ref h2, .ref h3, .ref h5, .int (nI kn)]))) (hk1 : ws[k1]? = some (h1, .inl (ct.2.1, 40, .inr (.inr (.inr (.inr (cfun kn ca))))))) (hk40 : kn ≤ 40) (hpool : PoolIn ws ca ta la td lw sy sh kn) (r0 : Int32) (h : f_B_shorter td lw sy sh kn cl ra_ = some r0) : Met l y_B_shorter w_B_shorter rm_B_shorter (va_Pc [.ref h0, .int cl, .long ra_] (PreP D ct ws)) (vp_Si (fun r => r = r0)) 0 0 (fun _ => False) := by
  refine Met.ofW (cc := b_B_shorter) (maxL := 10) (ret := (some .int)) (by decide) rfl ?_
  intro p e s m args below meth c s₁ B hml hv
  obtain ⟨rfl, hP, hKK⟩ := hv
  have hx := B.exec
  have hb := B.bytes
  have hr := B.returns
  have htg := ht_tl (atoms_spec (ws := w_B_shorter) B.pre)
  have hown : s.vm.findClass R_Bench = some m.cls := findClass_of_methodNamed B.named
  have hlocks := B.notSynchronized
  have hK := hKK.1
  have hN := hKK.2.1
  have hO := hKK.2.2
  have hl := lv_entry ([.ref h0, .int cl, .long ra_]) (n := 10) (Nat.le_of_ble_eq_true rfl)
  rw [lg_entry_eq]
  generalize (lg_sl ([.ref h0, .int cl, .long ra_]) ++ List.replicate (10 - (lg_sl ([.ref h0, .int cl, .long ra_])).length) Slot.unset).toArray = ls at hl ⊢
  have hl : lv_has ls 10 [(0, .ref h0), (1, .int cl), (2, .long ra_)] := hl
  unfold f_B_shorter at h
  refine lv_aload_n hx hb d_B_shorter_0 rfl (lv_at hl 0 rfl) ?_
  refine lv_iload_n hx hb d_B_shorter_1 rfl (lv_at hl 1 rfl) ?_
  by_cases b_1 : inb cl kn = true
  · rw [if_pos b_1] at h
    obtain ⟨⟨kc_2, hkc_2⟩, ⟨kt_3, hkt_3⟩, ⟨kl_4, hkl_4⟩⟩ := hpool cl.toNatClampNeg (inb_lt b_1)
    refine va_csq (va_Run.run (va_runV (As := [.int cl]) (rest := []) ⟨hx, hb, hml, hown, htg⟩ (c_B_find l D ct ws k0 k1 h0 h1 h2 h3 h5 (nI kn) (cfun kn ca) cl hk0 hk1 _ (find_in hk40 b_1)) (cwV 1 htg (giV tm_278 tm_280 tm_11 tm_31 g_B_find) rfl rfl rfl (by decide +kernel) ⟨Nat.le_of_ble_eq_true rfl, Nat.le_of_ble_eq_true rfl⟩) (preV hP hKK (va_recv hK hP (ci := 4) (q0 := k0) rfl hk0)) rfl rfl hl.1 rfl (lv_room (Nat.le_of_ble_eq_true rfl)) d_B_shorter_2 ⟨Nat.le_of_ble_eq_true rfl, Nat.le_of_ble_eq_true rfl⟩)) (fun r9 hr9 => ?_)
    subst hr9
    refine W.eq (g2 := F0 m 5 ls [.ref (ca cl.toNatClampNeg)]) rfl ?_
    refine lv_astore (lv' := [(4, .ref (ca cl.toNatClampNeg)), (0, .ref h0), (1, .int cl), (2, .long ra_)]) hx hb d_B_shorter_5 hl (by decide) rfl (fun ls hl => ?_)
    refine lv_aload hx hb d_B_shorter_7 (lv_at hl 0 rfl) ?_
    refine lv_ifnonnull (tgt := 14) hx hb d_B_shorter_9 (by decide) ?_
    refine lv_iconst (v := (0 : Int32)) hx hb d_B_shorter_14 (by decide) ?_
    refine lv_istore (lv' := [(5, .int (0 : Int32)), (4, .ref (ca cl.toNatClampNeg)), (0, .ref h0), (1, .int cl), (2, .long ra_)]) hx hb d_B_shorter_15 hl (by decide) rfl (fun ls hl => ?_)
    refine lv_bipush (v := (-4 : Int32)) hx hb d_B_shorter_17 (by decide) ?_
    refine lv_istore (lv' := [(6, .int (-4 : Int32)), (5, .int (0 : Int32)), (4, .ref (ca cl.toNatClampNeg)), (0, .ref h0), (1, .int cl), (2, .long ra_)]) hx hb d_B_shorter_19 hl (by decide) rfl (fun ls hl => ?_)
    have L_41 : ∀ (n : Nat) (wi : Int32) (lx : Int32) (ly : Int32) (lz : Int32) (wi' : Int32) (lx' : Int32) (ly' : Int32) (lz' : Int32), lp_B_shorter_41 td lw sy sh kn cl ra_ n wi lx ly lz = some (wi', lx', ly', lz') → ∀ (ls : Array Slot), lv_has ls 10 [(5, .int wi), (6, .int lx), (7, .int ly), (8, .int lz), (4, .ref (ca cl.toNatClampNeg)), (0, .ref h0), (1, .int cl), (2, .long ra_)] → (∀ (ls : Array Slot), lv_has ls 10 [(5, .int wi'), (6, .int lx'), (7, .int ly'), (8, .int lz'), (4, .ref (ca cl.toNatClampNeg)), (0, .ref h0), (1, .int cl), (2, .long ra_)] → W p l e (headSpec w_B_shorter rm_B_shorter).room s m ([.ref h0, .int cl, .long ra_] : List Value).toArray below meth c s.heap [] 0 0 (MQ below (vp_Si (fun r => r = r0)) ([.ref h0, .int cl, .long ra_] : List Value).toArray s 0 0 (fun _ => False)) (F0 m 114 ls [])) → W p l e (headSpec w_B_shorter rm_B_shorter).room s m ([.ref h0, .int cl, .long ra_] : List Value).toArray below meth c s.heap [] 0 0 (MQ below (vp_Si (fun r => r = r0)) ([.ref h0, .int cl, .long ra_] : List Value).toArray s 0 0 (fun _ => False)) (F0 m 41 ls []) := by
      intro n
      induction n with
      | zero =>
        intro wi lx ly lz wi' lx' ly' lz' h
        rw [lp_B_shorter_41] at h
        cases h
      | succ n ih =>
        intro wi lx ly lz wi' lx' ly' lz' h ls hl K
        rw [lp_B_shorter_41] at h
        refine lv_iload hx hb d_B_shorter_41 (lv_at hl 3 rfl) ?_
        refine lv_iconst (v := (4 : Int32)) hx hb d_B_shorter_43 (by decide) ?_
        refine lv_icmp_gt (tgt := 114) hx hb d_B_shorter_44 (by decide) (fun c_7 => ?_) (fun c_7 => ?_)
        · rw [if_pos c_7] at h
          cases h
          exact K _ (lv_sub hl [0, 1, 2, 3, 4, 5, 6, 7] rfl)
        · rw [if_neg c_7] at h
          refine lv_iload hx hb d_B_shorter_47 (lv_at hl 1 rfl) ?_
          refine lv_if_ne (tgt := 62) hx hb d_B_shorter_49 (by decide) (fun c_8 => ?_) (fun c_8 => ?_)
          · rw [if_neg c_8] at h
            refine lv_iconst (v := (1 : Int32)) hx hb d_B_shorter_62 (by decide) ?_
            refine lv_goto (tgt := 67) hx hb d_B_shorter_63 (by decide) ?_
            refine lv_istore (lv' := [(9, .int (1 : Int32)), (5, .int wi), (6, .int lx), (7, .int ly), (8, .int lz), (4, .ref (ca cl.toNatClampNeg)), (0, .ref h0), (1, .int cl), (2, .long ra_)]) hx hb d_B_shorter_67 hl (by decide) rfl (fun ls hl => ?_)
            refine lv_iload hx hb d_B_shorter_69 (lv_at hl 0 rfl) ?_
            refine lv_if_eq (tgt := 108) hx hb d_B_shorter_71 (by decide) (fun c_9 => ?_) (fun c_9 => ?_)
            · rw [if_pos c_9] at h
              refine lv_iinc (v := lz + (1 : Int32)) (lv' := [(8, .int (lz + (1 : Int32))), (9, .int (1 : Int32)), (5, .int wi), (6, .int lx), (7, .int ly), (4, .ref (ca cl.toNatClampNeg)), (0, .ref h0), (1, .int cl), (2, .long ra_)]) hx hb d_B_shorter_108 hl (k := 4) rfl rfl (by decide) rfl (fun ls hl => ?_)
              refine lv_goto (tgt := 41) hx hb d_B_shorter_111 (by decide) ?_
              exact ih wi lx ly (lz + (1 : Int32)) _ _ _ _ h ls (lv_sub hl [2, 3, 4, 0, 5, 6, 7, 8] rfl) K
            · rw [if_neg c_9] at h
              refine lv_aload hx hb d_B_shorter_74 (lv_at hl 5 rfl) ?_
              refine va_get (D := D) (ci := 3) (v := .ref (ta cl.toNatClampNeg)) (C := R_Cell) (T := F_Cell) (N := 4) hx hb htg i_Cell hown hK hP kc_2 hkc_2 rfl 0 (by decide) (htg _ tm_258) (fun _ h9 => h9) rfl d_B_shorter_76 ?_
              refine lv_iload hx hb d_B_shorter_79 (lv_at hl 2 rfl) ?_
              refine lv_i2l hx hb d_B_shorter_81 rfl ?_
              refine lv_iload hx hb d_B_shorter_82 (lv_at hl 3 rfl) ?_
              refine lv_i2l hx hb d_B_shorter_84 rfl ?_
              refine lv_iload hx hb d_B_shorter_85 (lv_at hl 4 rfl) ?_
              refine lv_i2l hx hb d_B_shorter_87 rfl ?_
              refine lv_iload hx hb d_B_shorter_88 (lv_at hl 2 rfl) ?_
              refine lv_i2l hx hb d_B_shorter_90 rfl ?_
              refine lv_iload hx hb d_B_shorter_91 (lv_at hl 3 rfl) ?_
              refine lv_i2l hx hb d_B_shorter_93 rfl ?_
              refine lv_iload hx hb d_B_shorter_94 (lv_at hl 4 rfl) ?_
              refine lv_i2l hx hb d_B_shorter_96 rfl ?_
              refine vp_callSl (va_Run.run (va_runV (As := [.long (lx.toInt64), .long (ly.toInt64), .long (lz.toInt64), .long (lx.toInt64), .long (ly.toInt64), .long (lz.toInt64)]) (rest := []) ⟨hx, hb, hml, hown, htg⟩ (c_P_prod l D ct ws kt_3 (ta cl.toNatClampNeg) ((td cl.toNatClampNeg).1) ((td cl.toNatClampNeg).2.1) ((td cl.toNatClampNeg).2.2.1) ((td cl.toNatClampNeg).2.2.2.1) ((td cl.toNatClampNeg).2.2.2.2.1) ((td cl.toNatClampNeg).2.2.2.2.2) (lx.toInt64) (ly.toInt64) (lz.toInt64) (lx.toInt64) (ly.toInt64) (lz.toInt64) hkt_3  _ rfl) (cwV 6 htg (giV tm_387 tm_234 tm_235 tm_35 g_P_prod) rfl rfl rfl (by decide +kernel) ⟨Nat.le_of_ble_eq_true rfl, Nat.le_of_ble_eq_true rfl⟩) (preV hP hKK (va_recv hK hP (ci := 0) (q0 := kt_3) rfl hkt_3)) rfl rfl hl.1 rfl (lv_room (Nat.le_of_ble_eq_true rfl)) d_B_shorter_97 ⟨Nat.le_of_ble_eq_true rfl, Nat.le_of_ble_eq_true rfl⟩)) (fun r9 hr9 => ?_)
              subst hr9
              refine lv_lload_n hx hb d_B_shorter_100 rfl (lv_at hl 8 rfl) ?_
              refine W.lcmp hx hb d_B_shorter_101 ?_
              refine lv_if_gt (tgt := 108) hx hb d_B_shorter_102 (by decide) (fun c_10 => ?_) (fun c_10 => ?_)
              · rw [if_pos c_10] at h
                refine lv_iinc (v := lz + (1 : Int32)) (lv' := [(8, .int (lz + (1 : Int32))), (9, .int (1 : Int32)), (5, .int wi), (6, .int lx), (7, .int ly), (4, .ref (ca cl.toNatClampNeg)), (0, .ref h0), (1, .int cl), (2, .long ra_)]) hx hb d_B_shorter_108 hl (k := 4) rfl rfl (by decide) rfl (fun ls hl => ?_)
                refine lv_goto (tgt := 41) hx hb d_B_shorter_111 (by decide) ?_
                exact ih wi lx ly (lz + (1 : Int32)) _ _ _ _ h ls (lv_sub hl [2, 3, 4, 0, 5, 6, 7, 8] rfl) K
              · rw [if_neg c_10] at h
                refine lv_iinc (v := wi + (1 : Int32)) (lv' := [(5, .int (wi + (1 : Int32))), (9, .int (1 : Int32)), (6, .int lx), (7, .int ly), (8, .int lz), (4, .ref (ca cl.toNatClampNeg)), (0, .ref h0), (1, .int cl), (2, .long ra_)]) hx hb d_B_shorter_105 hl (k := 1) rfl rfl (by decide) rfl (fun ls hl => ?_)
                refine lv_iinc (v := lz + (1 : Int32)) (lv' := [(8, .int (lz + (1 : Int32))), (5, .int (wi + (1 : Int32))), (9, .int (1 : Int32)), (6, .int lx), (7, .int ly), (4, .ref (ca cl.toNatClampNeg)), (0, .ref h0), (1, .int cl), (2, .long ra_)]) hx hb d_B_shorter_108 hl (k := 4) rfl rfl (by decide) rfl (fun ls hl => ?_)
                refine lv_goto (tgt := 41) hx hb d_B_shorter_111 (by decide) ?_
                exact ih (wi + (1 : Int32)) lx ly (lz + (1 : Int32)) _ _ _ _ h ls (lv_sub hl [1, 3, 4, 0, 5, 6, 7, 8] rfl) K
          · rw [if_pos c_8] at h
            refine lv_iload hx hb d_B_shorter_52 (lv_at hl 2 rfl) ?_
            refine lv_if_ne (tgt := 62) hx hb d_B_shorter_54 (by decide) (fun c_11 => ?_) (fun c_11 => ?_)
            · rw [if_neg c_11] at h
              refine lv_iconst (v := (1 : Int32)) hx hb d_B_shorter_62 (by decide) ?_
              refine lv_goto (tgt := 67) hx hb d_B_shorter_63 (by decide) ?_
              refine lv_istore (lv' := [(9, .int (1 : Int32)), (5, .int wi), (6, .int lx), (7, .int ly), (8, .int lz), (4, .ref (ca cl.toNatClampNeg)), (0, .ref h0), (1, .int cl), (2, .long ra_)]) hx hb d_B_shorter_67 hl (by decide) rfl (fun ls hl => ?_)
              refine lv_iload hx hb d_B_shorter_69 (lv_at hl 0 rfl) ?_
              refine lv_if_eq (tgt := 108) hx hb d_B_shorter_71 (by decide) (fun c_12 => ?_) (fun c_12 => ?_)
              · rw [if_pos c_12] at h
                refine lv_iinc (v := lz + (1 : Int32)) (lv' := [(8, .int (lz + (1 : Int32))), (9, .int (1 : Int32)), (5, .int wi), (6, .int lx), (7, .int ly), (4, .ref (ca cl.toNatClampNeg)), (0, .ref h0), (1, .int cl), (2, .long ra_)]) hx hb d_B_shorter_108 hl (k := 4) rfl rfl (by decide) rfl (fun ls hl => ?_)
                refine lv_goto (tgt := 41) hx hb d_B_shorter_111 (by decide) ?_
                exact ih wi lx ly (lz + (1 : Int32)) _ _ _ _ h ls (lv_sub hl [2, 3, 4, 0, 5, 6, 7, 8] rfl) K
              · rw [if_neg c_12] at h
                refine lv_aload hx hb d_B_shorter_74 (lv_at hl 5 rfl) ?_
                refine va_get (D := D) (ci := 3) (v := .ref (ta cl.toNatClampNeg)) (C := R_Cell) (T := F_Cell) (N := 4) hx hb htg i_Cell hown hK hP kc_2 hkc_2 rfl 0 (by decide) (htg _ tm_258) (fun _ h9 => h9) rfl d_B_shorter_76 ?_
                refine lv_iload hx hb d_B_shorter_79 (lv_at hl 2 rfl) ?_
                refine lv_i2l hx hb d_B_shorter_81 rfl ?_
                refine lv_iload hx hb d_B_shorter_82 (lv_at hl 3 rfl) ?_
                refine lv_i2l hx hb d_B_shorter_84 rfl ?_
                refine lv_iload hx hb d_B_shorter_85 (lv_at hl 4 rfl) ?_
                refine lv_i2l hx hb d_B_shorter_87 rfl ?_
                refine lv_iload hx hb d_B_shorter_88 (lv_at hl 2 rfl) ?_
                refine lv_i2l hx hb d_B_shorter_90 rfl ?_
                refine lv_iload hx hb d_B_shorter_91 (lv_at hl 3 rfl) ?_
                refine lv_i2l hx hb d_B_shorter_93 rfl ?_
                refine lv_iload hx hb d_B_shorter_94 (lv_at hl 4 rfl) ?_
                refine lv_i2l hx hb d_B_shorter_96 rfl ?_
                refine vp_callSl (va_Run.run (va_runV (As := [.long (lx.toInt64), .long (ly.toInt64), .long (lz.toInt64), .long (lx.toInt64), .long (ly.toInt64), .long (lz.toInt64)]) (rest := []) ⟨hx, hb, hml, hown, htg⟩ (c_P_prod l D ct ws kt_3 (ta cl.toNatClampNeg) ((td cl.toNatClampNeg).1) ((td cl.toNatClampNeg).2.1) ((td cl.toNatClampNeg).2.2.1) ((td cl.toNatClampNeg).2.2.2.1) ((td cl.toNatClampNeg).2.2.2.2.1) ((td cl.toNatClampNeg).2.2.2.2.2) (lx.toInt64) (ly.toInt64) (lz.toInt64) (lx.toInt64) (ly.toInt64) (lz.toInt64) hkt_3  _ rfl) (cwV 6 htg (giV tm_387 tm_234 tm_235 tm_35 g_P_prod) rfl rfl rfl (by decide +kernel) ⟨Nat.le_of_ble_eq_true rfl, Nat.le_of_ble_eq_true rfl⟩) (preV hP hKK (va_recv hK hP (ci := 0) (q0 := kt_3) rfl hkt_3)) rfl rfl hl.1 rfl (lv_room (Nat.le_of_ble_eq_true rfl)) d_B_shorter_97 ⟨Nat.le_of_ble_eq_true rfl, Nat.le_of_ble_eq_true rfl⟩)) (fun r9 hr9 => ?_)
                subst hr9
                refine lv_lload_n hx hb d_B_shorter_100 rfl (lv_at hl 8 rfl) ?_
                refine W.lcmp hx hb d_B_shorter_101 ?_
                refine lv_if_gt (tgt := 108) hx hb d_B_shorter_102 (by decide) (fun c_13 => ?_) (fun c_13 => ?_)
                · rw [if_pos c_13] at h
                  refine lv_iinc (v := lz + (1 : Int32)) (lv' := [(8, .int (lz + (1 : Int32))), (9, .int (1 : Int32)), (5, .int wi), (6, .int lx), (7, .int ly), (4, .ref (ca cl.toNatClampNeg)), (0, .ref h0), (1, .int cl), (2, .long ra_)]) hx hb d_B_shorter_108 hl (k := 4) rfl rfl (by decide) rfl (fun ls hl => ?_)
                  refine lv_goto (tgt := 41) hx hb d_B_shorter_111 (by decide) ?_
                  exact ih wi lx ly (lz + (1 : Int32)) _ _ _ _ h ls (lv_sub hl [2, 3, 4, 0, 5, 6, 7, 8] rfl) K
                · rw [if_neg c_13] at h
                  refine lv_iinc (v := wi + (1 : Int32)) (lv' := [(5, .int (wi + (1 : Int32))), (9, .int (1 : Int32)), (6, .int lx), (7, .int ly), (8, .int lz), (4, .ref (ca cl.toNatClampNeg)), (0, .ref h0), (1, .int cl), (2, .long ra_)]) hx hb d_B_shorter_105 hl (k := 1) rfl rfl (by decide) rfl (fun ls hl => ?_)
                  refine lv_iinc (v := lz + (1 : Int32)) (lv' := [(8, .int (lz + (1 : Int32))), (5, .int (wi + (1 : Int32))), (9, .int (1 : Int32)), (6, .int lx), (7, .int ly), (4, .ref (ca cl.toNatClampNeg)), (0, .ref h0), (1, .int cl), (2, .long ra_)]) hx hb d_B_shorter_108 hl (k := 4) rfl rfl (by decide) rfl (fun ls hl => ?_)
                  refine lv_goto (tgt := 41) hx hb d_B_shorter_111 (by decide) ?_
                  exact ih (wi + (1 : Int32)) lx ly (lz + (1 : Int32)) _ _ _ _ h ls (lv_sub hl [1, 3, 4, 0, 5, 6, 7, 8] rfl) K
            · rw [if_pos c_11] at h
              refine lv_iload hx hb d_B_shorter_57 (lv_at hl 3 rfl) ?_
              refine lv_if_eq (tgt := 66) hx hb d_B_shorter_59 (by decide) (fun c_14 => ?_) (fun c_14 => ?_)
              · rw [if_pos c_14] at h
                refine lv_iconst (v := (0 : Int32)) hx hb d_B_shorter_66 (by decide) ?_
                refine lv_istore (lv' := [(9, .int (0 : Int32)), (5, .int wi), (6, .int lx), (7, .int ly), (8, .int lz), (4, .ref (ca cl.toNatClampNeg)), (0, .ref h0), (1, .int cl), (2, .long ra_)]) hx hb d_B_shorter_67 hl (by decide) rfl (fun ls hl => ?_)
                refine lv_iload hx hb d_B_shorter_69 (lv_at hl 0 rfl) ?_
                refine lv_if_eq (tgt := 108) hx hb d_B_shorter_71 (by decide) (fun c_15 => ?_) (fun c_15 => ?_)
                · rw [if_pos c_15] at h
                  refine lv_iinc (v := lz + (1 : Int32)) (lv' := [(8, .int (lz + (1 : Int32))), (9, .int (0 : Int32)), (5, .int wi), (6, .int lx), (7, .int ly), (4, .ref (ca cl.toNatClampNeg)), (0, .ref h0), (1, .int cl), (2, .long ra_)]) hx hb d_B_shorter_108 hl (k := 4) rfl rfl (by decide) rfl (fun ls hl => ?_)
                  refine lv_goto (tgt := 41) hx hb d_B_shorter_111 (by decide) ?_
                  exact ih wi lx ly (lz + (1 : Int32)) _ _ _ _ h ls (lv_sub hl [2, 3, 4, 0, 5, 6, 7, 8] rfl) K
                · rw [if_neg c_15] at h
                  refine lv_aload hx hb d_B_shorter_74 (lv_at hl 5 rfl) ?_
                  refine va_get (D := D) (ci := 3) (v := .ref (ta cl.toNatClampNeg)) (C := R_Cell) (T := F_Cell) (N := 4) hx hb htg i_Cell hown hK hP kc_2 hkc_2 rfl 0 (by decide) (htg _ tm_258) (fun _ h9 => h9) rfl d_B_shorter_76 ?_
                  refine lv_iload hx hb d_B_shorter_79 (lv_at hl 2 rfl) ?_
                  refine lv_i2l hx hb d_B_shorter_81 rfl ?_
                  refine lv_iload hx hb d_B_shorter_82 (lv_at hl 3 rfl) ?_
                  refine lv_i2l hx hb d_B_shorter_84 rfl ?_
                  refine lv_iload hx hb d_B_shorter_85 (lv_at hl 4 rfl) ?_
                  refine lv_i2l hx hb d_B_shorter_87 rfl ?_
                  refine lv_iload hx hb d_B_shorter_88 (lv_at hl 2 rfl) ?_
                  refine lv_i2l hx hb d_B_shorter_90 rfl ?_
                  refine lv_iload hx hb d_B_shorter_91 (lv_at hl 3 rfl) ?_
                  refine lv_i2l hx hb d_B_shorter_93 rfl ?_
                  refine lv_iload hx hb d_B_shorter_94 (lv_at hl 4 rfl) ?_
                  refine lv_i2l hx hb d_B_shorter_96 rfl ?_
                  refine vp_callSl (va_Run.run (va_runV (As := [.long (lx.toInt64), .long (ly.toInt64), .long (lz.toInt64), .long (lx.toInt64), .long (ly.toInt64), .long (lz.toInt64)]) (rest := []) ⟨hx, hb, hml, hown, htg⟩ (c_P_prod l D ct ws kt_3 (ta cl.toNatClampNeg) ((td cl.toNatClampNeg).1) ((td cl.toNatClampNeg).2.1) ((td cl.toNatClampNeg).2.2.1) ((td cl.toNatClampNeg).2.2.2.1) ((td cl.toNatClampNeg).2.2.2.2.1) ((td cl.toNatClampNeg).2.2.2.2.2) (lx.toInt64) (ly.toInt64) (lz.toInt64) (lx.toInt64) (ly.toInt64) (lz.toInt64) hkt_3  _ rfl) (cwV 6 htg (giV tm_387 tm_234 tm_235 tm_35 g_P_prod) rfl rfl rfl (by decide +kernel) ⟨Nat.le_of_ble_eq_true rfl, Nat.le_of_ble_eq_true rfl⟩) (preV hP hKK (va_recv hK hP (ci := 0) (q0 := kt_3) rfl hkt_3)) rfl rfl hl.1 rfl (lv_room (Nat.le_of_ble_eq_true rfl)) d_B_shorter_97 ⟨Nat.le_of_ble_eq_true rfl, Nat.le_of_ble_eq_true rfl⟩)) (fun r9 hr9 => ?_)
                  subst hr9
                  refine lv_lload_n hx hb d_B_shorter_100 rfl (lv_at hl 8 rfl) ?_
                  refine W.lcmp hx hb d_B_shorter_101 ?_
                  refine lv_if_gt (tgt := 108) hx hb d_B_shorter_102 (by decide) (fun c_16 => ?_) (fun c_16 => ?_)
                  · rw [if_pos c_16] at h
                    refine lv_iinc (v := lz + (1 : Int32)) (lv' := [(8, .int (lz + (1 : Int32))), (9, .int (0 : Int32)), (5, .int wi), (6, .int lx), (7, .int ly), (4, .ref (ca cl.toNatClampNeg)), (0, .ref h0), (1, .int cl), (2, .long ra_)]) hx hb d_B_shorter_108 hl (k := 4) rfl rfl (by decide) rfl (fun ls hl => ?_)
                    refine lv_goto (tgt := 41) hx hb d_B_shorter_111 (by decide) ?_
                    exact ih wi lx ly (lz + (1 : Int32)) _ _ _ _ h ls (lv_sub hl [2, 3, 4, 0, 5, 6, 7, 8] rfl) K
                  · rw [if_neg c_16] at h
                    refine lv_iinc (v := wi + (1 : Int32)) (lv' := [(5, .int (wi + (1 : Int32))), (9, .int (0 : Int32)), (6, .int lx), (7, .int ly), (8, .int lz), (4, .ref (ca cl.toNatClampNeg)), (0, .ref h0), (1, .int cl), (2, .long ra_)]) hx hb d_B_shorter_105 hl (k := 1) rfl rfl (by decide) rfl (fun ls hl => ?_)
                    refine lv_iinc (v := lz + (1 : Int32)) (lv' := [(8, .int (lz + (1 : Int32))), (5, .int (wi + (1 : Int32))), (9, .int (0 : Int32)), (6, .int lx), (7, .int ly), (4, .ref (ca cl.toNatClampNeg)), (0, .ref h0), (1, .int cl), (2, .long ra_)]) hx hb d_B_shorter_108 hl (k := 4) rfl rfl (by decide) rfl (fun ls hl => ?_)
                    refine lv_goto (tgt := 41) hx hb d_B_shorter_111 (by decide) ?_
                    exact ih (wi + (1 : Int32)) lx ly (lz + (1 : Int32)) _ _ _ _ h ls (lv_sub hl [1, 3, 4, 0, 5, 6, 7, 8] rfl) K
              · rw [if_neg c_14] at h
                refine lv_iconst (v := (1 : Int32)) hx hb d_B_shorter_62 (by decide) ?_
                refine lv_goto (tgt := 67) hx hb d_B_shorter_63 (by decide) ?_
                refine lv_istore (lv' := [(9, .int (1 : Int32)), (5, .int wi), (6, .int lx), (7, .int ly), (8, .int lz), (4, .ref (ca cl.toNatClampNeg)), (0, .ref h0), (1, .int cl), (2, .long ra_)]) hx hb d_B_shorter_67 hl (by decide) rfl (fun ls hl => ?_)
                refine lv_iload hx hb d_B_shorter_69 (lv_at hl 0 rfl) ?_
                refine lv_if_eq (tgt := 108) hx hb d_B_shorter_71 (by decide) (fun c_17 => ?_) (fun c_17 => ?_)
                · rw [if_pos c_17] at h
                  refine lv_iinc (v := lz + (1 : Int32)) (lv' := [(8, .int (lz + (1 : Int32))), (9, .int (1 : Int32)), (5, .int wi), (6, .int lx), (7, .int ly), (4, .ref (ca cl.toNatClampNeg)), (0, .ref h0), (1, .int cl), (2, .long ra_)]) hx hb d_B_shorter_108 hl (k := 4) rfl rfl (by decide) rfl (fun ls hl => ?_)
                  refine lv_goto (tgt := 41) hx hb d_B_shorter_111 (by decide) ?_
                  exact ih wi lx ly (lz + (1 : Int32)) _ _ _ _ h ls (lv_sub hl [2, 3, 4, 0, 5, 6, 7, 8] rfl) K
                · rw [if_neg c_17] at h
                  refine lv_aload hx hb d_B_shorter_74 (lv_at hl 5 rfl) ?_
                  refine va_get (D := D) (ci := 3) (v := .ref (ta cl.toNatClampNeg)) (C := R_Cell) (T := F_Cell) (N := 4) hx hb htg i_Cell hown hK hP kc_2 hkc_2 rfl 0 (by decide) (htg _ tm_258) (fun _ h9 => h9) rfl d_B_shorter_76 ?_
                  refine lv_iload hx hb d_B_shorter_79 (lv_at hl 2 rfl) ?_
                  refine lv_i2l hx hb d_B_shorter_81 rfl ?_
                  refine lv_iload hx hb d_B_shorter_82 (lv_at hl 3 rfl) ?_
                  refine lv_i2l hx hb d_B_shorter_84 rfl ?_
                  refine lv_iload hx hb d_B_shorter_85 (lv_at hl 4 rfl) ?_
                  refine lv_i2l hx hb d_B_shorter_87 rfl ?_
                  refine lv_iload hx hb d_B_shorter_88 (lv_at hl 2 rfl) ?_
                  refine lv_i2l hx hb d_B_shorter_90 rfl ?_
                  refine lv_iload hx hb d_B_shorter_91 (lv_at hl 3 rfl) ?_
                  refine lv_i2l hx hb d_B_shorter_93 rfl ?_
                  refine lv_iload hx hb d_B_shorter_94 (lv_at hl 4 rfl) ?_
                  refine lv_i2l hx hb d_B_shorter_96 rfl ?_
                  refine vp_callSl (va_Run.run (va_runV (As := [.long (lx.toInt64), .long (ly.toInt64), .long (lz.toInt64), .long (lx.toInt64), .long (ly.toInt64), .long (lz.toInt64)]) (rest := []) ⟨hx, hb, hml, hown, htg⟩ (c_P_prod l D ct ws kt_3 (ta cl.toNatClampNeg) ((td cl.toNatClampNeg).1) ((td cl.toNatClampNeg).2.1) ((td cl.toNatClampNeg).2.2.1) ((td cl.toNatClampNeg).2.2.2.1) ((td cl.toNatClampNeg).2.2.2.2.1) ((td cl.toNatClampNeg).2.2.2.2.2) (lx.toInt64) (ly.toInt64) (lz.toInt64) (lx.toInt64) (ly.toInt64) (lz.toInt64) hkt_3  _ rfl) (cwV 6 htg (giV tm_387 tm_234 tm_235 tm_35 g_P_prod) rfl rfl rfl (by decide +kernel) ⟨Nat.le_of_ble_eq_true rfl, Nat.le_of_ble_eq_true rfl⟩) (preV hP hKK (va_recv hK hP (ci := 0) (q0 := kt_3) rfl hkt_3)) rfl rfl hl.1 rfl (lv_room (Nat.le_of_ble_eq_true rfl)) d_B_shorter_97 ⟨Nat.le_of_ble_eq_true rfl, Nat.le_of_ble_eq_true rfl⟩)) (fun r9 hr9 => ?_)
                  subst hr9
                  refine lv_lload_n hx hb d_B_shorter_100 rfl (lv_at hl 8 rfl) ?_
                  refine W.lcmp hx hb d_B_shorter_101 ?_
                  refine lv_if_gt (tgt := 108) hx hb d_B_shorter_102 (by decide) (fun c_18 => ?_) (fun c_18 => ?_)
                  · rw [if_pos c_18] at h
                    refine lv_iinc (v := lz + (1 : Int32)) (lv' := [(8, .int (lz + (1 : Int32))), (9, .int (1 : Int32)), (5, .int wi), (6, .int lx), (7, .int ly), (4, .ref (ca cl.toNatClampNeg)), (0, .ref h0), (1, .int cl), (2, .long ra_)]) hx hb d_B_shorter_108 hl (k := 4) rfl rfl (by decide) rfl (fun ls hl => ?_)
                    refine lv_goto (tgt := 41) hx hb d_B_shorter_111 (by decide) ?_
                    exact ih wi lx ly (lz + (1 : Int32)) _ _ _ _ h ls (lv_sub hl [2, 3, 4, 0, 5, 6, 7, 8] rfl) K
                  · rw [if_neg c_18] at h
                    refine lv_iinc (v := wi + (1 : Int32)) (lv' := [(5, .int (wi + (1 : Int32))), (9, .int (1 : Int32)), (6, .int lx), (7, .int ly), (8, .int lz), (4, .ref (ca cl.toNatClampNeg)), (0, .ref h0), (1, .int cl), (2, .long ra_)]) hx hb d_B_shorter_105 hl (k := 1) rfl rfl (by decide) rfl (fun ls hl => ?_)
                    refine lv_iinc (v := lz + (1 : Int32)) (lv' := [(8, .int (lz + (1 : Int32))), (5, .int (wi + (1 : Int32))), (9, .int (1 : Int32)), (6, .int lx), (7, .int ly), (4, .ref (ca cl.toNatClampNeg)), (0, .ref h0), (1, .int cl), (2, .long ra_)]) hx hb d_B_shorter_108 hl (k := 4) rfl rfl (by decide) rfl (fun ls hl => ?_)
                    refine lv_goto (tgt := 41) hx hb d_B_shorter_111 (by decide) ?_
                    exact ih (wi + (1 : Int32)) lx ly (lz + (1 : Int32)) _ _ _ _ h ls (lv_sub hl [1, 3, 4, 0, 5, 6, 7, 8] rfl) K
    have L_31 : ∀ (n : Nat) (wi : Int32) (lx : Int32) (ly : Int32) (wi' : Int32) (lx' : Int32) (ly' : Int32), lp_B_shorter_31 td lw sy sh kn cl ra_ n wi lx ly = some (wi', lx', ly') → ∀ (ls : Array Slot), lv_has ls 10 [(5, .int wi), (6, .int lx), (7, .int ly), (4, .ref (ca cl.toNatClampNeg)), (0, .ref h0), (1, .int cl), (2, .long ra_)] → (∀ (ls : Array Slot), lv_has ls 10 [(5, .int wi'), (6, .int lx'), (7, .int ly'), (4, .ref (ca cl.toNatClampNeg)), (0, .ref h0), (1, .int cl), (2, .long ra_)] → W p l e (headSpec w_B_shorter rm_B_shorter).room s m ([.ref h0, .int cl, .long ra_] : List Value).toArray below meth c s.heap [] 0 0 (MQ below (vp_Si (fun r => r = r0)) ([.ref h0, .int cl, .long ra_] : List Value).toArray s 0 0 (fun _ => False)) (F0 m 120 ls [])) → W p l e (headSpec w_B_shorter rm_B_shorter).room s m ([.ref h0, .int cl, .long ra_] : List Value).toArray below meth c s.heap [] 0 0 (MQ below (vp_Si (fun r => r = r0)) ([.ref h0, .int cl, .long ra_] : List Value).toArray s 0 0 (fun _ => False)) (F0 m 31 ls []) := by
      intro n
      induction n with
      | zero =>
        intro wi lx ly wi' lx' ly' h
        rw [lp_B_shorter_31] at h
        cases h
      | succ n ih =>
        intro wi lx ly wi' lx' ly' h ls hl K
        rw [lp_B_shorter_31] at h
        refine lv_iload hx hb d_B_shorter_31 (lv_at hl 2 rfl) ?_
        refine lv_iconst (v := (4 : Int32)) hx hb d_B_shorter_33 (by decide) ?_
        refine lv_icmp_gt (tgt := 120) hx hb d_B_shorter_34 (by decide) (fun c_6 => ?_) (fun c_6 => ?_)
        · rw [if_pos c_6] at h
          cases h
          exact K _ (lv_sub hl [0, 1, 2, 3, 4, 5, 6] rfl)
        · rw [if_neg c_6] at h
          refine lv_bipush (v := (-4 : Int32)) hx hb d_B_shorter_37 (by decide) ?_
          refine lv_istore (lv' := [(8, .int (-4 : Int32)), (5, .int wi), (6, .int lx), (7, .int ly), (4, .ref (ca cl.toNatClampNeg)), (0, .ref h0), (1, .int cl), (2, .long ra_)]) hx hb d_B_shorter_39 hl (by decide) rfl (fun ls hl => ?_)
          rcases e_23 : lp_B_shorter_41 td lw sy sh kn cl ra_ 10 wi lx ly (-4 : Int32) with _ | ⟨wi_19, lx_20, ly_21, lz_22⟩
          · rw [e_23] at h; cases h
          rw [e_23, Option.bind_some] at h
          try dsimp only at h
          refine L_41 10 wi lx ly (-4 : Int32) wi_19 lx_20 ly_21 lz_22 e_23 ls (lv_sub hl [1, 2, 3, 0, 4, 5, 6, 7] rfl) (fun ls hl => ?_)
          refine lv_iinc (v := ly_21 + (1 : Int32)) (lv' := [(7, .int (ly_21 + (1 : Int32))), (5, .int wi_19), (6, .int lx_20), (8, .int lz_22), (4, .ref (ca cl.toNatClampNeg)), (0, .ref h0), (1, .int cl), (2, .long ra_)]) hx hb d_B_shorter_114 hl (k := 2) rfl rfl (by decide) rfl (fun ls hl => ?_)
          refine lv_goto (tgt := 31) hx hb d_B_shorter_117 (by decide) ?_
          exact ih wi_19 lx_20 (ly_21 + (1 : Int32)) _ _ _ h ls (lv_sub hl [1, 2, 0, 4, 5, 6, 7] rfl) K
    have L_21 : ∀ (n : Nat) (wi : Int32) (lx : Int32) , lp_B_shorter_21 td lw sy sh kn cl ra_ n wi lx = some r0 → ∀ (ls : Array Slot), lv_has ls 10 [(5, .int wi), (6, .int lx), (4, .ref (ca cl.toNatClampNeg)), (0, .ref h0), (1, .int cl), (2, .long ra_)] → W p l e (headSpec w_B_shorter rm_B_shorter).room s m ([.ref h0, .int cl, .long ra_] : List Value).toArray below meth c s.heap [] 0 0 (MQ below (vp_Si (fun r => r = r0)) ([.ref h0, .int cl, .long ra_] : List Value).toArray s 0 0 (fun _ => False)) (F0 m 21 ls []) := by
      intro n
      induction n with
      | zero =>
        intro wi lx  h
        rw [lp_B_shorter_21] at h
        cases h
      | succ n ih =>
        intro wi lx  h ls hl
        rw [lp_B_shorter_21] at h
        refine lv_iload hx hb d_B_shorter_21 (lv_at hl 1 rfl) ?_
        refine lv_iconst (v := (4 : Int32)) hx hb d_B_shorter_23 (by decide) ?_
        refine lv_icmp_gt (tgt := 126) hx hb d_B_shorter_24 (by decide) (fun c_5 => ?_) (fun c_5 => ?_)
        · rw [if_pos c_5] at h
          refine lv_iload hx hb d_B_shorter_126 (lv_at hl 0 rfl) ?_
          exact W.iret (v := wi) hx hb hr (fun t ht hW => ⟨wi, rfl, (Option.some.inj h), ht⟩) (fun q h => by cases h) d_B_shorter_128
        · rw [if_neg c_5] at h
          refine lv_bipush (v := (-4 : Int32)) hx hb d_B_shorter_27 (by decide) ?_
          refine lv_istore (lv' := [(7, .int (-4 : Int32)), (5, .int wi), (6, .int lx), (4, .ref (ca cl.toNatClampNeg)), (0, .ref h0), (1, .int cl), (2, .long ra_)]) hx hb d_B_shorter_29 hl (by decide) rfl (fun ls hl => ?_)
          rcases e_28 : lp_B_shorter_31 td lw sy sh kn cl ra_ 10 wi lx (-4 : Int32) with _ | ⟨wi_25, lx_26, ly_27⟩
          · rw [e_28] at h; cases h
          rw [e_28, Option.bind_some] at h
          try dsimp only at h
          refine L_31 10 wi lx (-4 : Int32) wi_25 lx_26 ly_27 e_28 ls (lv_sub hl [1, 2, 0, 3, 4, 5, 6] rfl) (fun ls hl => ?_)
          refine lv_iinc (v := lx_26 + (1 : Int32)) (lv' := [(6, .int (lx_26 + (1 : Int32))), (5, .int wi_25), (7, .int ly_27), (4, .ref (ca cl.toNatClampNeg)), (0, .ref h0), (1, .int cl), (2, .long ra_)]) hx hb d_B_shorter_120 hl (k := 1) rfl rfl (by decide) rfl (fun ls hl => ?_)
          refine lv_goto (tgt := 21) hx hb d_B_shorter_123 (by decide) ?_
          exact ih wi_25 (lx_26 + (1 : Int32)) h ls (lv_sub hl [1, 0, 3, 4, 5, 6] rfl)
    exact L_21 10 (0 : Int32) (-4 : Int32) h ls (lv_sub hl [1, 0, 2, 3, 4, 5] rfl)
  · rw [if_neg b_1] at h
    refine va_csq (va_Run.run (va_runV (As := [.int cl]) (rest := []) ⟨hx, hb, hml, hown, htg⟩ (c_B_find l D ct ws k0 k1 h0 h1 h2 h3 h5 (nI kn) (cfun kn ca) cl hk0 hk1 _ (find_out hk40 b_1)) (cwV 1 htg (giV tm_278 tm_280 tm_11 tm_31 g_B_find) rfl rfl rfl (by decide +kernel) ⟨Nat.le_of_ble_eq_true rfl, Nat.le_of_ble_eq_true rfl⟩) (preV hP hKK (va_recv hK hP (ci := 4) (q0 := k0) rfl hk0)) rfl rfl hl.1 rfl (lv_room (Nat.le_of_ble_eq_true rfl)) d_B_shorter_2 ⟨Nat.le_of_ble_eq_true rfl, Nat.le_of_ble_eq_true rfl⟩)) (fun r9 hr9 => ?_)
    subst hr9
    refine W.eq (g2 := F0 m 5 ls [.null]) rfl ?_
    refine lv_astoreN (lv' := [(4, .null), (0, .ref h0), (1, .int cl), (2, .long ra_)]) hx hb d_B_shorter_5 hl (by decide) rfl (fun ls hl => ?_)
    refine lv_aloadN hx hb d_B_shorter_7 (lv_at hl 0 rfl) ?_
    refine lv_ifnonnullN hx hb d_B_shorter_9 ?_
    refine lv_iconst (v := (-1 : Int32)) hx hb d_B_shorter_12 (by decide) ?_
    exact W.iret (v := (-1 : Int32)) hx hb hr (fun t ht hW => ⟨(-1 : Int32), rfl, (Option.some.inj h), ht⟩) (fun q h => by cases h) d_B_shorter_13
end
