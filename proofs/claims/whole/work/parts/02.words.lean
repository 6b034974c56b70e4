set_option maxRecDepth 20000 in
theorem tm_0 : (Cond.selects R_Reducer y_R_ord1 y_R_ord1) ∈ GW := gw_in 0 (by first | rfl | decide +kernel) rfl
set_option maxRecDepth 20000 in
theorem tm_1 : (Cond.selects R_Reducer y_R_ord2 y_R_ord2) ∈ GW := gw_in 1 (by first | rfl | decide +kernel) rfl
set_option maxRecDepth 20000 in
theorem tm_2 : (Cond.selects R_Reducer y_R_align y_R_align) ∈ GW := gw_in 2 (by first | rfl | decide +kernel) rfl
set_option maxRecDepth 20000 in
theorem tm_3 : (Cond.selects R_Reducer y_R_shX y_R_shX) ∈ GW := gw_in 3 (by first | rfl | decide +kernel) rfl
set_option maxRecDepth 20000 in
theorem tm_4 : (Cond.selects R_Reducer y_R_shY y_R_shY) ∈ GW := gw_in 4 (by first | rfl | decide +kernel) rfl
set_option maxRecDepth 20000 in
theorem tm_5 : (Cond.selects R_Reducer y_R_shZ y_R_shZ) ∈ GW := gw_in 5 (by first | rfl | decide +kernel) rfl
set_option maxRecDepth 20000 in
theorem tm_6 : (Cond.selects R_Reducer y_R_shS y_R_shS) ∈ GW := gw_in 6 (by first | rfl | decide +kernel) rfl
set_option maxRecDepth 20000 in
theorem tm_7 : (Cond.selects R_Products y_P_colp y_P_colp) ∈ GW := gw_in 7 (by first | rfl | decide +kernel) rfl
set_option maxRecDepth 20000 in
theorem tm_8 : (Cond.selects R_Products y_P_fit2 y_P_fit2) ∈ GW := gw_in 8 (by first | rfl | decide +kernel) rfl
set_option maxRecDepth 20000 in
theorem tm_9 : (Cond.selects R_Products y_P_thirds y_P_thirds) ∈ GW := gw_in 9 (by first | rfl | decide +kernel) rfl
set_option maxRecDepth 20000 in
theorem tm_10 : (Cond.selects R_Products y_P_fit3 y_P_fit3) ∈ GW := gw_in 10 (by first | rfl | decide +kernel) rfl
set_option maxRecDepth 20000 in
theorem tm_11 : (Cond.selects R_Bench y_B_find y_B_find) ∈ GW := gw_in 11 (by first | rfl | decide +kernel) rfl
set_option maxRecDepth 20000 in
theorem tm_12 : (Cond.selects R_Table y_T_addAll y_T_addAll) ∈ GW := gw_in 12 (by first | rfl | decide +kernel) rfl
set_option maxRecDepth 20000 in
theorem tm_13 : (Cond.selects R_Table y_T_edges y_T_edges) ∈ GW := gw_in 13 (by first | rfl | decide +kernel) rfl
set_option maxRecDepth 20000 in
theorem tm_14 : (Cond.selects R_Table y_T_count y_T_count) ∈ GW := gw_in 14 (by first | rfl | decide +kernel) rfl
set_option maxRecDepth 20000 in
theorem tm_15 : (Cond.selects R_Table y_T_first y_T_first) ∈ GW := gw_in 15 (by first | rfl | decide +kernel) rfl
set_option maxRecDepth 20000 in
theorem tm_16 : (Cond.selects R_Table y_T_ordR y_T_ordR) ∈ GW := gw_in 16 (by first | rfl | decide +kernel) rfl
set_option maxRecDepth 20000 in
theorem tm_17 : (Cond.selects R_Table y_T_insert y_T_insert) ∈ GW := gw_in 17 (by first | rfl | decide +kernel) rfl
set_option maxRecDepth 20000 in
theorem tm_18 : (Cond.selects R_Table y_T_ordO y_T_ordO) ∈ GW := gw_in 18 (by first | rfl | decide +kernel) rfl
set_option maxRecDepth 20000 in
theorem tm_19 : (Cond.selects R_Model y_M_reduce y_M_reduce) ∈ GW := gw_in 19 (by first | rfl | decide +kernel) rfl
set_option maxRecDepth 20000 in
theorem tm_20 : (Cond.selects R_Model y_M_goes y_M_goes) ∈ GW := gw_in 20 (by first | rfl | decide +kernel) rfl
set_option maxRecDepth 20000 in
theorem tm_21 : (Cond.selects R_Model y_M_exch y_M_exch) ∈ GW := gw_in 21 (by first | rfl | decide +kernel) rfl
set_option maxRecDepth 20000 in
theorem tm_22 : (Cond.selects R_Model y_M_open y_M_open) ∈ GW := gw_in 22 (by first | rfl | decide +kernel) rfl
set_option maxRecDepth 20000 in
theorem tm_23 : (Cond.selects R_Model y_M_keeps6 y_M_keeps6) ∈ GW := gw_in 23 (by first | rfl | decide +kernel) rfl
set_option maxRecDepth 20000 in
theorem tm_24 : (Cond.selects R_Model y_M_isCell y_M_isCell) ∈ GW := gw_in 24 (by first | rfl | decide +kernel) rfl
set_option maxRecDepth 20000 in
theorem tm_25 : (Cond.selects R_Model y_M_areSame y_M_areSame) ∈ GW := gw_in 25 (by first | rfl | decide +kernel) rfl
set_option maxRecDepth 20000 in
theorem tm_26 : (Cond.selects R_Model y_M_isMul y_M_isMul) ∈ GW := gw_in 26 (by first | rfl | decide +kernel) rfl
set_option maxRecDepth 20000 in
theorem tm_27 : (Cond.selects R_Model y_M_mult y_M_mult) ∈ GW := gw_in 27 (by first | rfl | decide +kernel) rfl
set_option maxRecDepth 20000 in
theorem tm_28 : (Cond.selects R_Model y_M_one y_M_one) ∈ GW := gw_in 28 (by first | rfl | decide +kernel) rfl
set_option maxRecDepth 20000 in
theorem tm_29 : (Cond.selects R_Model y_M_comp y_M_comp) ∈ GW := gw_in 29 (by first | rfl | decide +kernel) rfl
set_option maxRecDepth 20000 in
theorem tm_31 : (Cond.initialized R_Bench) ∈ GW := gw_in 31 (by first | rfl | decide +kernel) rfl
set_option maxRecDepth 20000 in
theorem tm_32 : (Cond.initialized R_Reducer) ∈ GW := gw_in 32 (by first | rfl | decide +kernel) rfl
set_option maxRecDepth 20000 in
theorem tm_33 : (Cond.initialized R_Table) ∈ GW := gw_in 33 (by first | rfl | decide +kernel) rfl
set_option maxRecDepth 20000 in
theorem tm_34 : (Cond.initialized R_Model) ∈ GW := gw_in 34 (by first | rfl | decide +kernel) rfl
set_option maxRecDepth 20000 in
theorem tm_35 : (Cond.initialized R_Products) ∈ GW := gw_in 35 (by first | rfl | decide +kernel) rfl
set_option maxRecDepth 20000 in
theorem tm_36 : (Cond.initialized "java/lang/Math") ∈ GW := gw_in 36 (by first | rfl | decide +kernel) rfl
set_option maxRecDepth 20000 in
theorem tm_37 : (Cond.initialized "java/lang/Long") ∈ GW := gw_in 37 (by first | rfl | decide +kernel) rfl
set_option maxRecDepth 20000 in
theorem tm_38 : (Cond.initialized R_Cell) ∈ GW := gw_in 38 (by first | rfl | decide +kernel) rfl
set_option maxRecDepth 20000 in
theorem tm_39 : (Cond.initialized "java/lang/System") ∈ GW := gw_in 39 (by first | rfl | decide +kernel) rfl
set_option maxRecDepth 20000 in
theorem tm_40 : (Cond.classLink "CellBenchLaw" 7 R_Bench) ∈ GW := gw_in 40 (by first | rfl | decide +kernel) rfl
set_option maxRecDepth 20000 in
theorem tm_41 : (Cond.instantiable R_Bench 5) ∈ GW := gw_in 41 (by first | rfl | decide +kernel) rfl
set_option maxRecDepth 20000 in
theorem tm_42 : (Cond.methodLink "CellBenchLaw" 9 y_B_init) ∈ GW := gw_in 42 (by first | rfl | decide +kernel) rfl
set_option maxRecDepth 20000 in
theorem tm_43 : (Cond.instanceMethod y_B_init) ∈ GW := gw_in 43 (by first | rfl | decide +kernel) rfl
set_option maxRecDepth 20000 in
theorem tm_44 : (Cond.code y_B_init b_B_init 1 none) ∈ GW := gw_in 44 (by first | rfl | decide +kernel) rfl
set_option maxRecDepth 20000 in
theorem tm_45 : (Cond.methodLink R_Bench 1 objectInit) ∈ GW := gw_in 45 (by first | rfl | decide +kernel) rfl
set_option maxRecDepth 20000 in
theorem tm_46 : (Cond.instanceMethod objectInit) ∈ GW := gw_in 46 (by first | rfl | decide +kernel) rfl
set_option maxRecDepth 20000 in
theorem tm_47 : (Cond.code objectInit ⟨#[0xb1]⟩ 1 none) ∈ GW := gw_in 47 (by first | rfl | decide +kernel) rfl
set_option maxRecDepth 20000 in
theorem tm_48 : (Cond.classLink R_Bench 9 R_Cell) ∈ GW := gw_in 48 (by first | rfl | decide +kernel) rfl
set_option maxRecDepth 20000 in
theorem tm_50 : (Cond.classLink R_Bench 15 R_Reducer) ∈ GW := gw_in 50 (by first | rfl | decide +kernel) rfl
set_option maxRecDepth 20000 in
theorem tm_51 : (Cond.instantiable R_Reducer 7) ∈ GW := gw_in 51 (by first | rfl | decide +kernel) rfl
set_option maxRecDepth 20000 in
theorem tm_52 : (Cond.methodLink R_Bench 17 y_R_init) ∈ GW := gw_in 52 (by first | rfl | decide +kernel) rfl
set_option maxRecDepth 20000 in
theorem tm_53 : (Cond.instanceMethod y_R_init) ∈ GW := gw_in 53 (by first | rfl | decide +kernel) rfl
set_option maxRecDepth 20000 in
theorem tm_54 : (Cond.code y_R_init b_R_init 1 none) ∈ GW := gw_in 54 (by first | rfl | decide +kernel) rfl
set_option maxRecDepth 20000 in
theorem tm_55 : (Cond.methodLink R_Reducer 1 objectInit) ∈ GW := gw_in 55 (by first | rfl | decide +kernel) rfl
set_option maxRecDepth 20000 in
theorem tm_56 : (Cond.fieldLink R_Reducer 44 "CellBench$Reducer" "a" "J") ∈ GW := gw_in 56 (by first | rfl | decide +kernel) rfl
set_option maxRecDepth 20000 in
theorem tm_57 : (Cond.fieldLink R_Reducer 45 "CellBench$Reducer" "b" "J") ∈ GW := gw_in 57 (by first | rfl | decide +kernel) rfl
set_option maxRecDepth 20000 in
theorem tm_58 : (Cond.fieldLink R_Reducer 46 "CellBench$Reducer" "c" "J") ∈ GW := gw_in 58 (by first | rfl | decide +kernel) rfl
set_option maxRecDepth 20000 in
theorem tm_59 : (Cond.fieldLink R_Reducer 49 "CellBench$Reducer" "x" "J") ∈ GW := gw_in 59 (by first | rfl | decide +kernel) rfl
set_option maxRecDepth 20000 in
theorem tm_60 : (Cond.fieldLink R_Reducer 52 "CellBench$Reducer" "y" "J") ∈ GW := gw_in 60 (by first | rfl | decide +kernel) rfl
set_option maxRecDepth 20000 in
theorem tm_61 : (Cond.fieldLink R_Reducer 55 "CellBench$Reducer" "z" "J") ∈ GW := gw_in 61 (by first | rfl | decide +kernel) rfl
set_option maxRecDepth 20000 in
theorem tm_62 : (Cond.fieldLink R_Reducer 7 "CellBench$Reducer" "shears" "I") ∈ GW := gw_in 62 (by first | rfl | decide +kernel) rfl
set_option maxRecDepth 20000 in
theorem tm_63 : (Cond.lays "CellBench$Reducer" "CellBench$Reducer" "a" "J") ∈ GW := gw_in 63 (by first | rfl | decide +kernel) rfl
set_option maxRecDepth 20000 in
theorem tm_65 : (Cond.lays "CellBench$Reducer" "CellBench$Reducer" "b" "J") ∈ GW := gw_in 65 (by first | rfl | decide +kernel) rfl
set_option maxRecDepth 20000 in
theorem tm_67 : (Cond.lays "CellBench$Reducer" "CellBench$Reducer" "c" "J") ∈ GW := gw_in 67 (by first | rfl | decide +kernel) rfl
set_option maxRecDepth 20000 in
theorem tm_69 : (Cond.lays "CellBench$Reducer" "CellBench$Reducer" "x" "J") ∈ GW := gw_in 69 (by first | rfl | decide +kernel) rfl
set_option maxRecDepth 20000 in
theorem tm_71 : (Cond.lays "CellBench$Reducer" "CellBench$Reducer" "y" "J") ∈ GW := gw_in 71 (by first | rfl | decide +kernel) rfl
set_option maxRecDepth 20000 in
theorem tm_73 : (Cond.lays "CellBench$Reducer" "CellBench$Reducer" "z" "J") ∈ GW := gw_in 73 (by first | rfl | decide +kernel) rfl
set_option maxRecDepth 20000 in
theorem tm_75 : (Cond.lays "CellBench$Reducer" "CellBench$Reducer" "shears" "I") ∈ GW := gw_in 75 (by first | rfl | decide +kernel) rfl
set_option maxRecDepth 20000 in
theorem tm_78 : (Cond.classLink R_Bench 22 R_Table) ∈ GW := gw_in 78 (by first | rfl | decide +kernel) rfl
set_option maxRecDepth 20000 in
theorem tm_79 : (Cond.instantiable R_Table 5) ∈ GW := gw_in 79 (by first | rfl | decide +kernel) rfl
set_option maxRecDepth 20000 in
theorem tm_80 : (Cond.methodLink R_Bench 24 y_T_init) ∈ GW := gw_in 80 (by first | rfl | decide +kernel) rfl
set_option maxRecDepth 20000 in
theorem tm_81 : (Cond.instanceMethod y_T_init) ∈ GW := gw_in 81 (by first | rfl | decide +kernel) rfl
set_option maxRecDepth 20000 in
theorem tm_82 : (Cond.code y_T_init b_T_init 2 none) ∈ GW := gw_in 82 (by first | rfl | decide +kernel) rfl
set_option maxRecDepth 20000 in
theorem tm_83 : (Cond.methodLink R_Table 3 objectInit) ∈ GW := gw_in 83 (by first | rfl | decide +kernel) rfl
set_option maxRecDepth 20000 in
theorem tm_84 : (Cond.fieldLink R_Table 9 "CellBench$MultipleTable" "reducer" "LCellBench$Reducer;") ∈ GW := gw_in 84 (by first | rfl | decide +kernel) rfl
set_option maxRecDepth 20000 in
theorem tm_85 : (Cond.fieldLink R_Table 15 "CellBench$MultipleTable" "rows" "[J") ∈ GW := gw_in 85 (by first | rfl | decide +kernel) rfl
set_option maxRecDepth 20000 in
theorem tm_86 : (Cond.fieldLink R_Table 19 "CellBench$MultipleTable" "size" "I") ∈ GW := gw_in 86 (by first | rfl | decide +kernel) rfl
set_option maxRecDepth 20000 in
theorem tm_87 : (Cond.fieldLink R_Table 23 "CellBench$MultipleTable" "filledCell" "I") ∈ GW := gw_in 87 (by first | rfl | decide +kernel) rfl
set_option maxRecDepth 20000 in
theorem tm_88 : (Cond.fieldLink R_Table 26 "CellBench$MultipleTable" "filledN" "I") ∈ GW := gw_in 88 (by first | rfl | decide +kernel) rfl
set_option maxRecDepth 20000 in
theorem tm_89 : (Cond.laysFinal "CellBench$MultipleTable" "CellBench$MultipleTable" "reducer" "LCellBench$Reducer;") ∈ GW := gw_in 89 (by first | rfl | decide +kernel) rfl
set_option maxRecDepth 20000 in
theorem tm_91 : (Cond.laysFinal "CellBench$MultipleTable" "CellBench$MultipleTable" "rows" "[J") ∈ GW := gw_in 91 (by first | rfl | decide +kernel) rfl
set_option maxRecDepth 20000 in
theorem tm_93 : (Cond.lays "CellBench$MultipleTable" "CellBench$MultipleTable" "size" "I") ∈ GW := gw_in 93 (by first | rfl | decide +kernel) rfl
set_option maxRecDepth 20000 in
theorem tm_95 : (Cond.lays "CellBench$MultipleTable" "CellBench$MultipleTable" "filledCell" "I") ∈ GW := gw_in 95 (by first | rfl | decide +kernel) rfl
set_option maxRecDepth 20000 in
theorem tm_97 : (Cond.lays "CellBench$MultipleTable" "CellBench$MultipleTable" "filledN" "I") ∈ GW := gw_in 97 (by first | rfl | decide +kernel) rfl
set_option maxRecDepth 20000 in
theorem tm_100 : (Cond.arrayClass .long) ∈ GW := gw_in 100 (by first | rfl | decide +kernel) rfl
set_option maxRecDepth 20000 in
theorem tm_101 : (Cond.fieldLink R_Bench 11 "CellBench" "cells" "[LCellBench$Cell;") ∈ GW := gw_in 101 (by first | rfl | decide +kernel) rfl
set_option maxRecDepth 20000 in
theorem tm_102 : (Cond.fieldLink R_Bench 18 "CellBench" "reducer" "LCellBench$Reducer;") ∈ GW := gw_in 102 (by first | rfl | decide +kernel) rfl
set_option maxRecDepth 20000 in
theorem tm_103 : (Cond.fieldLink R_Bench 27 "CellBench" "table" "LCellBench$MultipleTable;") ∈ GW := gw_in 103 (by first | rfl | decide +kernel) rfl
set_option maxRecDepth 20000 in
theorem tm_104 : (Cond.fieldLink R_Bench 31 "CellBench" "otherTable" "LCellBench$MultipleTable;") ∈ GW := gw_in 104 (by first | rfl | decide +kernel) rfl
set_option maxRecDepth 20000 in
theorem tm_105 : (Cond.fieldLink R_Bench 34 "CellBench" "count" "I") ∈ GW := gw_in 105 (by first | rfl | decide +kernel) rfl
set_option maxRecDepth 20000 in
theorem tm_106 : (Cond.laysFinal "CellBench" "CellBench" "cells" "[LCellBench$Cell;") ∈ GW := gw_in 106 (by first | rfl | decide +kernel) rfl
set_option maxRecDepth 20000 in
theorem tm_108 : (Cond.laysFinal "CellBench" "CellBench" "reducer" "LCellBench$Reducer;") ∈ GW := gw_in 108 (by first | rfl | decide +kernel) rfl
set_option maxRecDepth 20000 in
theorem tm_110 : (Cond.laysFinal "CellBench" "CellBench" "table" "LCellBench$MultipleTable;") ∈ GW := gw_in 110 (by first | rfl | decide +kernel) rfl
set_option maxRecDepth 20000 in
theorem tm_112 : (Cond.laysFinal "CellBench" "CellBench" "otherTable" "LCellBench$MultipleTable;") ∈ GW := gw_in 112 (by first | rfl | decide +kernel) rfl
set_option maxRecDepth 20000 in
theorem tm_114 : (Cond.lays "CellBench" "CellBench" "count" "I") ∈ GW := gw_in 114 (by first | rfl | decide +kernel) rfl
set_option maxRecDepth 20000 in
theorem tm_117 : (Cond.methodLink "CellBenchLaw" 13 y_B_cell) ∈ GW := gw_in 117 (by first | rfl | decide +kernel) rfl
set_option maxRecDepth 20000 in
theorem tm_118 : (Cond.instanceMethod y_B_cell) ∈ GW := gw_in 118 (by first | rfl | decide +kernel) rfl
set_option maxRecDepth 20000 in
theorem tm_119 : (Cond.selects R_Bench y_B_cell y_B_cell) ∈ GW := gw_in 119 (by first | rfl | decide +kernel) rfl
set_option maxRecDepth 20000 in
theorem tm_120 : (Cond.code y_B_cell b_B_cell 9 (some .int)) ∈ GW := gw_in 120 (by first | rfl | decide +kernel) rfl
set_option maxRecDepth 20000 in
theorem tm_121 : (Cond.methodLink R_Bench 38 y_isSquare) ∈ GW := gw_in 121 (by first | rfl | decide +kernel) rfl
set_option maxRecDepth 20000 in
theorem tm_122 : (Cond.static y_isSquare) ∈ GW := gw_in 122 (by first | rfl | decide +kernel) rfl
set_option maxRecDepth 20000 in
theorem tm_123 : (Cond.code y_isSquare b_isSquare 1 (some .boolean)) ∈ GW := gw_in 123 (by first | rfl | decide +kernel) rfl
set_option maxRecDepth 20000 in
theorem tm_124 : (Cond.methodLink R_Bench 42 y_isMixed) ∈ GW := gw_in 124 (by first | rfl | decide +kernel) rfl
set_option maxRecDepth 20000 in
theorem tm_125 : (Cond.static y_isMixed) ∈ GW := gw_in 125 (by first | rfl | decide +kernel) rfl
set_option maxRecDepth 20000 in
theorem tm_126 : (Cond.code y_isMixed b_isMixed 1 (some .boolean)) ∈ GW := gw_in 126 (by first | rfl | decide +kernel) rfl
set_option maxRecDepth 20000 in
theorem tm_127 : (Cond.classLink R_Bench 45 R_Products) ∈ GW := gw_in 127 (by first | rfl | decide +kernel) rfl
set_option maxRecDepth 20000 in
theorem tm_128 : (Cond.instantiable R_Products 6) ∈ GW := gw_in 128 (by first | rfl | decide +kernel) rfl
set_option maxRecDepth 20000 in
theorem tm_129 : (Cond.methodLink R_Bench 47 y_P_init) ∈ GW := gw_in 129 (by first | rfl | decide +kernel) rfl
set_option maxRecDepth 20000 in
theorem tm_130 : (Cond.instanceMethod y_P_init) ∈ GW := gw_in 130 (by first | rfl | decide +kernel) rfl
set_option maxRecDepth 20000 in
theorem tm_131 : (Cond.code y_P_init b_P_init 13 none) ∈ GW := gw_in 131 (by first | rfl | decide +kernel) rfl
set_option maxRecDepth 20000 in
theorem tm_132 : (Cond.methodLink R_Products 3 objectInit) ∈ GW := gw_in 132 (by first | rfl | decide +kernel) rfl
set_option maxRecDepth 20000 in
theorem tm_133 : (Cond.fieldLink R_Products 9 "CellBench$Products" "a" "J") ∈ GW := gw_in 133 (by first | rfl | decide +kernel) rfl
set_option maxRecDepth 20000 in
theorem tm_135 : (Cond.fieldLink R_Products 15 "CellBench$Products" "b" "J") ∈ GW := gw_in 135 (by first | rfl | decide +kernel) rfl
set_option maxRecDepth 20000 in
theorem tm_137 : (Cond.fieldLink R_Products 18 "CellBench$Products" "c" "J") ∈ GW := gw_in 137 (by first | rfl | decide +kernel) rfl
set_option maxRecDepth 20000 in
theorem tm_139 : (Cond.fieldLink R_Products 21 "CellBench$Products" "d" "J") ∈ GW := gw_in 139 (by first | rfl | decide +kernel) rfl
set_option maxRecDepth 20000 in
theorem tm_141 : (Cond.fieldLink R_Products 24 "CellBench$Products" "e" "J") ∈ GW := gw_in 141 (by first | rfl | decide +kernel) rfl
set_option maxRecDepth 20000 in
theorem tm_143 : (Cond.fieldLink R_Products 27 "CellBench$Products" "f" "J") ∈ GW := gw_in 143 (by first | rfl | decide +kernel) rfl
set_option maxRecDepth 20000 in
theorem tm_145 : (Cond.laysFinal "CellBench$Products" "CellBench$Products" "a" "J") ∈ GW := gw_in 145 (by first | rfl | decide +kernel) rfl
set_option maxRecDepth 20000 in
theorem tm_147 : (Cond.laysFinal "CellBench$Products" "CellBench$Products" "b" "J") ∈ GW := gw_in 147 (by first | rfl | decide +kernel) rfl
set_option maxRecDepth 20000 in
theorem tm_149 : (Cond.laysFinal "CellBench$Products" "CellBench$Products" "c" "J") ∈ GW := gw_in 149 (by first | rfl | decide +kernel) rfl
set_option maxRecDepth 20000 in
theorem tm_151 : (Cond.laysFinal "CellBench$Products" "CellBench$Products" "d" "J") ∈ GW := gw_in 151 (by first | rfl | decide +kernel) rfl
set_option maxRecDepth 20000 in
theorem tm_153 : (Cond.laysFinal "CellBench$Products" "CellBench$Products" "e" "J") ∈ GW := gw_in 153 (by first | rfl | decide +kernel) rfl
set_option maxRecDepth 20000 in
theorem tm_155 : (Cond.laysFinal "CellBench$Products" "CellBench$Products" "f" "J") ∈ GW := gw_in 155 (by first | rfl | decide +kernel) rfl
set_option maxRecDepth 20000 in
theorem tm_158 : (Cond.methodLink R_Bench 50 y_P_span) ∈ GW := gw_in 158 (by first | rfl | decide +kernel) rfl
set_option maxRecDepth 20000 in
theorem tm_159 : (Cond.instanceMethod y_P_span) ∈ GW := gw_in 159 (by first | rfl | decide +kernel) rfl
set_option maxRecDepth 20000 in
theorem tm_160 : (Cond.selects R_Products y_P_span y_P_span) ∈ GW := gw_in 160 (by first | rfl | decide +kernel) rfl
set_option maxRecDepth 20000 in
theorem tm_161 : (Cond.code y_P_span b_P_span 1 (some .boolean)) ∈ GW := gw_in 161 (by first | rfl | decide +kernel) rfl
set_option maxRecDepth 20000 in
theorem tm_162 : (Cond.methodLink R_Products 30 y_P_det) ∈ GW := gw_in 162 (by first | rfl | decide +kernel) rfl
set_option maxRecDepth 20000 in
theorem tm_163 : (Cond.instanceMethod y_P_det) ∈ GW := gw_in 163 (by first | rfl | decide +kernel) rfl
set_option maxRecDepth 20000 in
theorem tm_164 : (Cond.selects R_Products y_P_det y_P_det) ∈ GW := gw_in 164 (by first | rfl | decide +kernel) rfl
set_option maxRecDepth 20000 in
theorem tm_165 : (Cond.code y_P_det b_P_det 1 (some .long)) ∈ GW := gw_in 165 (by first | rfl | decide +kernel) rfl
set_option maxRecDepth 20000 in
theorem tm_166 : (Cond.methodLink R_Bench 54 y_R_reduce) ∈ GW := gw_in 166 (by first | rfl | decide +kernel) rfl
set_option maxRecDepth 20000 in
theorem tm_167 : (Cond.instanceMethod y_R_reduce) ∈ GW := gw_in 167 (by first | rfl | decide +kernel) rfl
set_option maxRecDepth 20000 in
theorem tm_168 : (Cond.selects R_Reducer y_R_reduce y_R_reduce) ∈ GW := gw_in 168 (by first | rfl | decide +kernel) rfl
set_option maxRecDepth 20000 in
theorem tm_169 : (Cond.code y_R_reduce b_R_reduce 2 none) ∈ GW := gw_in 169 (by first | rfl | decide +kernel) rfl
set_option maxRecDepth 20000 in
theorem tm_170 : (Cond.methodLink R_Reducer 25 y_R_setSq) ∈ GW := gw_in 170 (by first | rfl | decide +kernel) rfl
set_option maxRecDepth 20000 in
theorem tm_171 : (Cond.instanceMethod y_R_setSq) ∈ GW := gw_in 171 (by first | rfl | decide +kernel) rfl
set_option maxRecDepth 20000 in
theorem tm_172 : (Cond.selects R_Reducer y_R_setSq y_R_setSq) ∈ GW := gw_in 172 (by first | rfl | decide +kernel) rfl
set_option maxRecDepth 20000 in
theorem tm_173 : (Cond.code y_R_setSq b_R_setSq 7 none) ∈ GW := gw_in 173 (by first | rfl | decide +kernel) rfl
set_option maxRecDepth 20000 in
theorem tm_174 : (Cond.methodLink R_Reducer 38 y_R_setMx) ∈ GW := gw_in 174 (by first | rfl | decide +kernel) rfl
set_option maxRecDepth 20000 in
theorem tm_175 : (Cond.instanceMethod y_R_setMx) ∈ GW := gw_in 175 (by first | rfl | decide +kernel) rfl
set_option maxRecDepth 20000 in
theorem tm_176 : (Cond.selects R_Reducer y_R_setMx y_R_setMx) ∈ GW := gw_in 176 (by first | rfl | decide +kernel) rfl
set_option maxRecDepth 20000 in
theorem tm_177 : (Cond.code y_R_setMx b_R_setMx 7 none) ∈ GW := gw_in 177 (by first | rfl | decide +kernel) rfl
set_option maxRecDepth 20000 in
theorem tm_178 : (Cond.constantLong R_Reducer 47 2) ∈ GW := gw_in 178 (by first | rfl | decide +kernel) rfl
set_option maxRecDepth 20000 in
theorem tm_179 : (Cond.methodLink R_Reducer 41 y_R_run) ∈ GW := gw_in 179 (by first | rfl | decide +kernel) rfl
set_option maxRecDepth 20000 in
theorem tm_180 : (Cond.instanceMethod y_R_run) ∈ GW := gw_in 180 (by first | rfl | decide +kernel) rfl
set_option maxRecDepth 20000 in
theorem tm_181 : (Cond.selects R_Reducer y_R_run y_R_run) ∈ GW := gw_in 181 (by first | rfl | decide +kernel) rfl
set_option maxRecDepth 20000 in
theorem tm_182 : (Cond.code y_R_run b_R_run 2 none) ∈ GW := gw_in 182 (by first | rfl | decide +kernel) rfl
set_option maxRecDepth 20000 in
theorem tm_183 : (Cond.constant R_Reducer 58 1000000) ∈ GW := gw_in 183 (by first | rfl | decide +kernel) rfl
set_option maxRecDepth 20000 in
theorem tm_184 : (Cond.methodLink R_Reducer 59 y_R_ord1) ∈ GW := gw_in 184 (by first | rfl | decide +kernel) rfl
set_option maxRecDepth 20000 in
theorem tm_186 : (Cond.instanceMethod y_R_ord1) ∈ GW := gw_in 186 (by first | rfl | decide +kernel) rfl
set_option maxRecDepth 20000 in
theorem tm_187 : (Cond.code y_R_ord1 b_R_ord1 5 none) ∈ GW := gw_in 187 (by first | rfl | decide +kernel) rfl
set_option maxRecDepth 20000 in
theorem tm_188 : (Cond.methodLink R_Reducer 84 Lib.MathLoose.abs_long.x) ∈ GW := gw_in 188 (by first | rfl | decide +kernel) rfl
set_option maxRecDepth 20000 in
theorem tm_189 : (Cond.static Lib.MathLoose.abs_long.x) ∈ GW := gw_in 189 (by first | rfl | decide +kernel) rfl
set_option maxRecDepth 20000 in
theorem tm_190 : (Cond.code Lib.MathLoose.abs_long.x Lib.MathLoose.abs_long.code 2 (some .long)) ∈ GW := gw_in 190 (by first | rfl | decide +kernel) rfl
set_option maxRecDepth 20000 in
theorem tm_191 : (Cond.methodLink R_Reducer 62 y_R_ord2) ∈ GW := gw_in 191 (by first | rfl | decide +kernel) rfl
set_option maxRecDepth 20000 in
theorem tm_193 : (Cond.instanceMethod y_R_ord2) ∈ GW := gw_in 193 (by first | rfl | decide +kernel) rfl
set_option maxRecDepth 20000 in
theorem tm_194 : (Cond.code y_R_ord2 b_R_ord2 5 (some .boolean)) ∈ GW := gw_in 194 (by first | rfl | decide +kernel) rfl
set_option maxRecDepth 20000 in
theorem tm_195 : (Cond.methodLink R_Reducer 66 y_R_align) ∈ GW := gw_in 195 (by first | rfl | decide +kernel) rfl
set_option maxRecDepth 20000 in
theorem tm_197 : (Cond.instanceMethod y_R_align) ∈ GW := gw_in 197 (by first | rfl | decide +kernel) rfl
set_option maxRecDepth 20000 in
theorem tm_198 : (Cond.code y_R_align b_R_align 3 none) ∈ GW := gw_in 198 (by first | rfl | decide +kernel) rfl
set_option maxRecDepth 20000 in
theorem tm_199 : (Cond.methodLink R_Reducer 90 y_Long_cmp) ∈ GW := gw_in 199 (by first | rfl | decide +kernel) rfl
set_option maxRecDepth 20000 in
theorem tm_200 : (Cond.static y_Long_cmp) ∈ GW := gw_in 200 (by first | rfl | decide +kernel) rfl
set_option maxRecDepth 20000 in
theorem tm_201 : (Cond.code y_Long_cmp b_Long_cmp 4 (some .int)) ∈ GW := gw_in 201 (by first | rfl | decide +kernel) rfl
set_option maxRecDepth 20000 in
theorem tm_202 : (Cond.methodLink R_Reducer 69 y_R_shX) ∈ GW := gw_in 202 (by first | rfl | decide +kernel) rfl
set_option maxRecDepth 20000 in
theorem tm_204 : (Cond.instanceMethod y_R_shX) ∈ GW := gw_in 204 (by first | rfl | decide +kernel) rfl
set_option maxRecDepth 20000 in
theorem tm_205 : (Cond.code y_R_shX b_R_shX 2 (some .boolean)) ∈ GW := gw_in 205 (by first | rfl | decide +kernel) rfl
set_option maxRecDepth 20000 in
theorem tm_206 : (Cond.methodLink R_Reducer 72 y_R_shY) ∈ GW := gw_in 206 (by first | rfl | decide +kernel) rfl
set_option maxRecDepth 20000 in
theorem tm_208 : (Cond.instanceMethod y_R_shY) ∈ GW := gw_in 208 (by first | rfl | decide +kernel) rfl
set_option maxRecDepth 20000 in
theorem tm_209 : (Cond.code y_R_shY b_R_shY 2 (some .boolean)) ∈ GW := gw_in 209 (by first | rfl | decide +kernel) rfl
set_option maxRecDepth 20000 in
theorem tm_210 : (Cond.methodLink R_Reducer 75 y_R_shZ) ∈ GW := gw_in 210 (by first | rfl | decide +kernel) rfl
set_option maxRecDepth 20000 in
theorem tm_212 : (Cond.instanceMethod y_R_shZ) ∈ GW := gw_in 212 (by first | rfl | decide +kernel) rfl
set_option maxRecDepth 20000 in
theorem tm_213 : (Cond.code y_R_shZ b_R_shZ 2 (some .boolean)) ∈ GW := gw_in 213 (by first | rfl | decide +kernel) rfl
set_option maxRecDepth 20000 in
theorem tm_214 : (Cond.methodLink R_Reducer 78 y_R_shS) ∈ GW := gw_in 214 (by first | rfl | decide +kernel) rfl
set_option maxRecDepth 20000 in
theorem tm_216 : (Cond.instanceMethod y_R_shS) ∈ GW := gw_in 216 (by first | rfl | decide +kernel) rfl
set_option maxRecDepth 20000 in
theorem tm_217 : (Cond.code y_R_shS b_R_shS 3 (some .boolean)) ∈ GW := gw_in 217 (by first | rfl | decide +kernel) rfl
set_option maxRecDepth 20000 in
theorem tm_218 : (Cond.methodLink R_Bench 58 y_R_result) ∈ GW := gw_in 218 (by first | rfl | decide +kernel) rfl
set_option maxRecDepth 20000 in
theorem tm_219 : (Cond.instanceMethod y_R_result) ∈ GW := gw_in 219 (by first | rfl | decide +kernel) rfl
set_option maxRecDepth 20000 in
theorem tm_220 : (Cond.selects R_Reducer y_R_result y_R_result) ∈ GW := gw_in 220 (by first | rfl | decide +kernel) rfl
set_option maxRecDepth 20000 in
theorem tm_221 : (Cond.code y_R_result b_R_result 1 (some (.object "CellBench$Products"))) ∈ GW := gw_in 221 (by first | rfl | decide +kernel) rfl
set_option maxRecDepth 20000 in
theorem tm_222 : (Cond.classLink R_Reducer 14 R_Products) ∈ GW := gw_in 222 (by first | rfl | decide +kernel) rfl
set_option maxRecDepth 20000 in
theorem tm_223 : (Cond.methodLink R_Reducer 81 y_P_init) ∈ GW := gw_in 223 (by first | rfl | decide +kernel) rfl
set_option maxRecDepth 20000 in
theorem tm_224 : (Cond.instantiable R_Cell 4) ∈ GW := gw_in 224 (by first | rfl | decide +kernel) rfl
set_option maxRecDepth 20000 in
theorem tm_225 : (Cond.methodLink R_Bench 62 y_P_keepers) ∈ GW := gw_in 225 (by first | rfl | decide +kernel) rfl
set_option maxRecDepth 20000 in
theorem tm_226 : (Cond.instanceMethod y_P_keepers) ∈ GW := gw_in 226 (by first | rfl | decide +kernel) rfl
set_option maxRecDepth 20000 in
theorem tm_227 : (Cond.selects R_Products y_P_keepers y_P_keepers) ∈ GW := gw_in 227 (by first | rfl | decide +kernel) rfl
set_option maxRecDepth 20000 in
theorem tm_228 : (Cond.code y_P_keepers b_P_keepers 4 (some .int)) ∈ GW := gw_in 228 (by first | rfl | decide +kernel) rfl
set_option maxRecDepth 20000 in
theorem tm_229 : (Cond.methodLink R_Products 38 y_P_colp) ∈ GW := gw_in 229 (by first | rfl | decide +kernel) rfl
set_option maxRecDepth 20000 in
theorem tm_231 : (Cond.instanceMethod y_P_colp) ∈ GW := gw_in 231 (by first | rfl | decide +kernel) rfl
set_option maxRecDepth 20000 in
theorem tm_232 : (Cond.code y_P_colp b_P_colp 3 (some .long)) ∈ GW := gw_in 232 (by first | rfl | decide +kernel) rfl
set_option maxRecDepth 20000 in
theorem tm_233 : (Cond.methodLink R_Products 34 y_P_prod) ∈ GW := gw_in 233 (by first | rfl | decide +kernel) rfl
set_option maxRecDepth 20000 in
theorem tm_234 : (Cond.instanceMethod y_P_prod) ∈ GW := gw_in 234 (by first | rfl | decide +kernel) rfl
set_option maxRecDepth 20000 in
theorem tm_235 : (Cond.selects R_Products y_P_prod y_P_prod) ∈ GW := gw_in 235 (by first | rfl | decide +kernel) rfl
set_option maxRecDepth 20000 in
theorem tm_236 : (Cond.code y_P_prod b_P_prod 13 (some .long)) ∈ GW := gw_in 236 (by first | rfl | decide +kernel) rfl
set_option maxRecDepth 20000 in
theorem tm_237 : (Cond.methodLink R_Products 42 y_P_fit2) ∈ GW := gw_in 237 (by first | rfl | decide +kernel) rfl
set_option maxRecDepth 20000 in
theorem tm_239 : (Cond.instanceMethod y_P_fit2) ∈ GW := gw_in 239 (by first | rfl | decide +kernel) rfl
set_option maxRecDepth 20000 in
theorem tm_240 : (Cond.code y_P_fit2 b_P_fit2 3 (some .boolean)) ∈ GW := gw_in 240 (by first | rfl | decide +kernel) rfl
set_option maxRecDepth 20000 in
theorem tm_241 : (Cond.methodLink R_Products 50 y_P_thirds) ∈ GW := gw_in 241 (by first | rfl | decide +kernel) rfl
set_option maxRecDepth 20000 in
theorem tm_243 : (Cond.instanceMethod y_P_thirds) ∈ GW := gw_in 243 (by first | rfl | decide +kernel) rfl
set_option maxRecDepth 20000 in
theorem tm_244 : (Cond.code y_P_thirds b_P_thirds 5 (some .int)) ∈ GW := gw_in 244 (by first | rfl | decide +kernel) rfl
set_option maxRecDepth 20000 in
theorem tm_245 : (Cond.methodLink R_Products 46 y_P_fit3) ∈ GW := gw_in 245 (by first | rfl | decide +kernel) rfl
set_option maxRecDepth 20000 in
theorem tm_247 : (Cond.instanceMethod y_P_fit3) ∈ GW := gw_in 247 (by first | rfl | decide +kernel) rfl
set_option maxRecDepth 20000 in
theorem tm_248 : (Cond.code y_P_fit3 b_P_fit3 4 (some .boolean)) ∈ GW := gw_in 248 (by first | rfl | decide +kernel) rfl
set_option maxRecDepth 20000 in
theorem tm_249 : (Cond.methodLink R_Bench 66 y_R_shears) ∈ GW := gw_in 249 (by first | rfl | decide +kernel) rfl
set_option maxRecDepth 20000 in
theorem tm_250 : (Cond.instanceMethod y_R_shears) ∈ GW := gw_in 250 (by first | rfl | decide +kernel) rfl
set_option maxRecDepth 20000 in
theorem tm_251 : (Cond.selects R_Reducer y_R_shears y_R_shears) ∈ GW := gw_in 251 (by first | rfl | decide +kernel) rfl
set_option maxRecDepth 20000 in
theorem tm_252 : (Cond.code y_R_shears b_R_shears 1 (some .int)) ∈ GW := gw_in 252 (by first | rfl | decide +kernel) rfl
set_option maxRecDepth 20000 in
theorem tm_253 : (Cond.methodLink R_Bench 69 y_C_init) ∈ GW := gw_in 253 (by first | rfl | decide +kernel) rfl
set_option maxRecDepth 20000 in
theorem tm_254 : (Cond.instanceMethod y_C_init) ∈ GW := gw_in 254 (by first | rfl | decide +kernel) rfl
set_option maxRecDepth 20000 in
theorem tm_255 : (Cond.code y_C_init b_C_init 5 none) ∈ GW := gw_in 255 (by first | rfl | decide +kernel) rfl
set_option maxRecDepth 20000 in
theorem tm_256 : (Cond.methodLink R_Cell 1 objectInit) ∈ GW := gw_in 256 (by first | rfl | decide +kernel) rfl
set_option maxRecDepth 20000 in
theorem tm_257 : (Cond.fieldLink R_Cell 7 "CellBench$Cell" "told" "LCellBench$Products;") ∈ GW := gw_in 257 (by first | rfl | decide +kernel) rfl
set_option maxRecDepth 20000 in
theorem tm_258 : (Cond.fieldLink R_Bench 93 "CellBench$Cell" "told" "LCellBench$Products;") ∈ GW := gw_in 258 (by first | rfl | decide +kernel) rfl
set_option maxRecDepth 20000 in
theorem tm_259 : (Cond.fieldLink R_Cell 13 "CellBench$Cell" "low" "LCellBench$Products;") ∈ GW := gw_in 259 (by first | rfl | decide +kernel) rfl
set_option maxRecDepth 20000 in
theorem tm_260 : (Cond.fieldLink R_Bench 79 "CellBench$Cell" "low" "LCellBench$Products;") ∈ GW := gw_in 260 (by first | rfl | decide +kernel) rfl
set_option maxRecDepth 20000 in
theorem tm_261 : (Cond.fieldLink R_Cell 16 "CellBench$Cell" "symmetry" "I") ∈ GW := gw_in 261 (by first | rfl | decide +kernel) rfl
set_option maxRecDepth 20000 in
theorem tm_262 : (Cond.fieldLink R_Bench 76 "CellBench$Cell" "symmetry" "I") ∈ GW := gw_in 262 (by first | rfl | decide +kernel) rfl
set_option maxRecDepth 20000 in
theorem tm_263 : (Cond.fieldLink R_Cell 20 "CellBench$Cell" "shears" "I") ∈ GW := gw_in 263 (by first | rfl | decide +kernel) rfl
set_option maxRecDepth 20000 in
theorem tm_264 : (Cond.fieldLink R_Bench 87 "CellBench$Cell" "shears" "I") ∈ GW := gw_in 264 (by first | rfl | decide +kernel) rfl
set_option maxRecDepth 20000 in
theorem tm_265 : (Cond.laysFinal "CellBench$Cell" "CellBench$Cell" "told" "LCellBench$Products;") ∈ GW := gw_in 265 (by first | rfl | decide +kernel) rfl
set_option maxRecDepth 20000 in
theorem tm_267 : (Cond.laysFinal "CellBench$Cell" "CellBench$Cell" "low" "LCellBench$Products;") ∈ GW := gw_in 267 (by first | rfl | decide +kernel) rfl
set_option maxRecDepth 20000 in
theorem tm_269 : (Cond.laysFinal "CellBench$Cell" "CellBench$Cell" "symmetry" "I") ∈ GW := gw_in 269 (by first | rfl | decide +kernel) rfl
set_option maxRecDepth 20000 in
theorem tm_271 : (Cond.laysFinal "CellBench$Cell" "CellBench$Cell" "shears" "I") ∈ GW := gw_in 271 (by first | rfl | decide +kernel) rfl
set_option maxRecDepth 20000 in
theorem tm_274 : (Cond.methodLink "CellBenchLaw" 18 y_B_reduced) ∈ GW := gw_in 274 (by first | rfl | decide +kernel) rfl
set_option maxRecDepth 20000 in
theorem tm_275 : (Cond.instanceMethod y_B_reduced) ∈ GW := gw_in 275 (by first | rfl | decide +kernel) rfl
set_option maxRecDepth 20000 in
theorem tm_276 : (Cond.selects R_Bench y_B_reduced y_B_reduced) ∈ GW := gw_in 276 (by first | rfl | decide +kernel) rfl
set_option maxRecDepth 20000 in
theorem tm_277 : (Cond.code y_B_reduced b_B_reduced 4 (some .long)) ∈ GW := gw_in 277 (by first | rfl | decide +kernel) rfl
set_option maxRecDepth 20000 in
theorem tm_278 : (Cond.methodLink R_Bench 72 y_B_find) ∈ GW := gw_in 278 (by first | rfl | decide +kernel) rfl
set_option maxRecDepth 20000 in
theorem tm_280 : (Cond.instanceMethod y_B_find) ∈ GW := gw_in 280 (by first | rfl | decide +kernel) rfl
set_option maxRecDepth 20000 in
theorem tm_281 : (Cond.code y_B_find b_B_find 2 (some (.object "CellBench$Cell"))) ∈ GW := gw_in 281 (by first | rfl | decide +kernel) rfl
set_option maxRecDepth 20000 in
theorem tm_282 : (Cond.methodLink R_Bench 83 y_P_det) ∈ GW := gw_in 282 (by first | rfl | decide +kernel) rfl
set_option maxRecDepth 20000 in
theorem tm_283 : (Cond.methodLink R_Bench 89 y_P_at) ∈ GW := gw_in 283 (by first | rfl | decide +kernel) rfl
set_option maxRecDepth 20000 in
theorem tm_284 : (Cond.instanceMethod y_P_at) ∈ GW := gw_in 284 (by first | rfl | decide +kernel) rfl
set_option maxRecDepth 20000 in
theorem tm_285 : (Cond.selects R_Products y_P_at y_P_at) ∈ GW := gw_in 285 (by first | rfl | decide +kernel) rfl
set_option maxRecDepth 20000 in
theorem tm_286 : (Cond.code y_P_at b_P_at 2 (some .long)) ∈ GW := gw_in 286 (by first | rfl | decide +kernel) rfl
set_option maxRecDepth 20000 in
theorem tm_287 : (Cond.methodLink "CellBenchLaw" 23 y_B_keeps) ∈ GW := gw_in 287 (by first | rfl | decide +kernel) rfl
set_option maxRecDepth 20000 in
theorem tm_288 : (Cond.instanceMethod y_B_keeps) ∈ GW := gw_in 288 (by first | rfl | decide +kernel) rfl
set_option maxRecDepth 20000 in
theorem tm_289 : (Cond.selects R_Bench y_B_keeps y_B_keeps) ∈ GW := gw_in 289 (by first | rfl | decide +kernel) rfl
set_option maxRecDepth 20000 in
theorem tm_290 : (Cond.code y_B_keeps b_B_keeps 4 (some .boolean)) ∈ GW := gw_in 290 (by first | rfl | decide +kernel) rfl
set_option maxRecDepth 20000 in
theorem tm_291 : (Cond.methodLink R_Bench 96 y_columnAtEnd) ∈ GW := gw_in 291 (by first | rfl | decide +kernel) rfl
set_option maxRecDepth 20000 in
theorem tm_292 : (Cond.static y_columnAtEnd) ∈ GW := gw_in 292 (by first | rfl | decide +kernel) rfl
set_option maxRecDepth 20000 in
theorem tm_293 : (Cond.code y_columnAtEnd b_columnAtEnd 1 (some .int)) ∈ GW := gw_in 293 (by first | rfl | decide +kernel) rfl
set_option maxRecDepth 20000 in
theorem tm_294 : (Cond.methodLink R_Bench 100 y_P_kept) ∈ GW := gw_in 294 (by first | rfl | decide +kernel) rfl
set_option maxRecDepth 20000 in
theorem tm_295 : (Cond.instanceMethod y_P_kept) ∈ GW := gw_in 295 (by first | rfl | decide +kernel) rfl
set_option maxRecDepth 20000 in
theorem tm_296 : (Cond.selects R_Products y_P_kept y_P_kept) ∈ GW := gw_in 296 (by first | rfl | decide +kernel) rfl
set_option maxRecDepth 20000 in
theorem tm_297 : (Cond.code y_P_kept b_P_kept 4 (some .boolean)) ∈ GW := gw_in 297 (by first | rfl | decide +kernel) rfl
set_option maxRecDepth 20000 in
theorem tm_298 : (Cond.methodLink "CellBenchLaw" 28 y_B_same) ∈ GW := gw_in 298 (by first | rfl | decide +kernel) rfl
set_option maxRecDepth 20000 in
theorem tm_299 : (Cond.instanceMethod y_B_same) ∈ GW := gw_in 299 (by first | rfl | decide +kernel) rfl
set_option maxRecDepth 20000 in
theorem tm_300 : (Cond.selects R_Bench y_B_same y_B_same) ∈ GW := gw_in 300 (by first | rfl | decide +kernel) rfl
set_option maxRecDepth 20000 in
theorem tm_301 : (Cond.code y_B_same b_B_same 5 (some .int)) ∈ GW := gw_in 301 (by first | rfl | decide +kernel) rfl
set_option maxRecDepth 20000 in
theorem tm_302 : (Cond.methodLink R_Bench 104 y_P_order) ∈ GW := gw_in 302 (by first | rfl | decide +kernel) rfl
set_option maxRecDepth 20000 in
theorem tm_303 : (Cond.instanceMethod y_P_order) ∈ GW := gw_in 303 (by first | rfl | decide +kernel) rfl
set_option maxRecDepth 20000 in
theorem tm_304 : (Cond.selects R_Products y_P_order y_P_order) ∈ GW := gw_in 304 (by first | rfl | decide +kernel) rfl
set_option maxRecDepth 20000 in
theorem tm_305 : (Cond.code y_P_order b_P_order 4 (some .int)) ∈ GW := gw_in 305 (by first | rfl | decide +kernel) rfl
set_option maxRecDepth 20000 in
theorem tm_306 : (Cond.methodLink R_Products 54 y_P_at) ∈ GW := gw_in 306 (by first | rfl | decide +kernel) rfl
set_option maxRecDepth 20000 in
theorem tm_307 : (Cond.methodLink R_Products 58 y_Long_cmp) ∈ GW := gw_in 307 (by first | rfl | decide +kernel) rfl
set_option maxRecDepth 20000 in
theorem tm_308 : (Cond.methodLink "CellBenchLaw" 33 y_B_multiples) ∈ GW := gw_in 308 (by first | rfl | decide +kernel) rfl
set_option maxRecDepth 20000 in
theorem tm_309 : (Cond.instanceMethod y_B_multiples) ∈ GW := gw_in 309 (by first | rfl | decide +kernel) rfl
set_option maxRecDepth 20000 in
theorem tm_310 : (Cond.selects R_Bench y_B_multiples y_B_multiples) ∈ GW := gw_in 310 (by first | rfl | decide +kernel) rfl
set_option maxRecDepth 20000 in
theorem tm_311 : (Cond.code y_B_multiples b_B_multiples 4 (some .int)) ∈ GW := gw_in 311 (by first | rfl | decide +kernel) rfl
set_option maxRecDepth 20000 in
theorem tm_312 : (Cond.methodLink R_Bench 108 y_isMultiplier) ∈ GW := gw_in 312 (by first | rfl | decide +kernel) rfl
set_option maxRecDepth 20000 in
theorem tm_313 : (Cond.static y_isMultiplier) ∈ GW := gw_in 313 (by first | rfl | decide +kernel) rfl
set_option maxRecDepth 20000 in
theorem tm_314 : (Cond.code y_isMultiplier b_isMultiplier 1 (some .boolean)) ∈ GW := gw_in 314 (by first | rfl | decide +kernel) rfl
set_option maxRecDepth 20000 in
theorem tm_315 : (Cond.methodLink R_Bench 111 y_T_fill) ∈ GW := gw_in 315 (by first | rfl | decide +kernel) rfl
set_option maxRecDepth 20000 in
theorem tm_316 : (Cond.instanceMethod y_T_fill) ∈ GW := gw_in 316 (by first | rfl | decide +kernel) rfl
set_option maxRecDepth 20000 in
theorem tm_317 : (Cond.selects R_Table y_T_fill y_T_fill) ∈ GW := gw_in 317 (by first | rfl | decide +kernel) rfl
set_option maxRecDepth 20000 in
theorem tm_318 : (Cond.code y_T_fill b_T_fill 6 none) ∈ GW := gw_in 318 (by first | rfl | decide +kernel) rfl
set_option maxRecDepth 20000 in
theorem tm_319 : (Cond.methodLink R_Table 29 y_T_addAll) ∈ GW := gw_in 319 (by first | rfl | decide +kernel) rfl
set_option maxRecDepth 20000 in
theorem tm_321 : (Cond.instanceMethod y_T_addAll) ∈ GW := gw_in 321 (by first | rfl | decide +kernel) rfl
set_option maxRecDepth 20000 in
theorem tm_322 : (Cond.code y_T_addAll b_T_addAll 8 none) ∈ GW := gw_in 322 (by first | rfl | decide +kernel) rfl
set_option maxRecDepth 20000 in
theorem tm_323 : (Cond.methodLink R_Table 33 y_T_edges) ∈ GW := gw_in 323 (by first | rfl | decide +kernel) rfl
set_option maxRecDepth 20000 in
theorem tm_325 : (Cond.instanceMethod y_T_edges) ∈ GW := gw_in 325 (by first | rfl | decide +kernel) rfl
set_option maxRecDepth 20000 in
theorem tm_326 : (Cond.code y_T_edges b_T_edges 8 none) ∈ GW := gw_in 326 (by first | rfl | decide +kernel) rfl
set_option maxRecDepth 20000 in
theorem tm_327 : (Cond.methodLink R_Table 40 y_P_prod) ∈ GW := gw_in 327 (by first | rfl | decide +kernel) rfl
set_option maxRecDepth 20000 in
theorem tm_328 : (Cond.methodLink R_Table 46 y_R_setSq) ∈ GW := gw_in 328 (by first | rfl | decide +kernel) rfl
set_option maxRecDepth 20000 in
theorem tm_329 : (Cond.methodLink R_Table 52 y_R_setMx) ∈ GW := gw_in 329 (by first | rfl | decide +kernel) rfl
set_option maxRecDepth 20000 in
theorem tm_330 : (Cond.methodLink R_Table 55 y_R_run) ∈ GW := gw_in 330 (by first | rfl | decide +kernel) rfl
set_option maxRecDepth 20000 in
theorem tm_331 : (Cond.methodLink R_Table 37 y_T_count) ∈ GW := gw_in 331 (by first | rfl | decide +kernel) rfl
set_option maxRecDepth 20000 in
theorem tm_333 : (Cond.instanceMethod y_T_count) ∈ GW := gw_in 333 (by first | rfl | decide +kernel) rfl
set_option maxRecDepth 20000 in
theorem tm_334 : (Cond.code y_T_count b_T_count 2 none) ∈ GW := gw_in 334 (by first | rfl | decide +kernel) rfl
set_option maxRecDepth 20000 in
theorem tm_335 : (Cond.methodLink R_Table 58 y_T_first) ∈ GW := gw_in 335 (by first | rfl | decide +kernel) rfl
set_option maxRecDepth 20000 in
theorem tm_337 : (Cond.instanceMethod y_T_first) ∈ GW := gw_in 337 (by first | rfl | decide +kernel) rfl
set_option maxRecDepth 20000 in
theorem tm_338 : (Cond.code y_T_first b_T_first 4 (some .int)) ∈ GW := gw_in 338 (by first | rfl | decide +kernel) rfl
set_option maxRecDepth 20000 in
theorem tm_339 : (Cond.methodLink R_Table 62 y_T_ordR) ∈ GW := gw_in 339 (by first | rfl | decide +kernel) rfl
set_option maxRecDepth 20000 in
theorem tm_341 : (Cond.instanceMethod y_T_ordR) ∈ GW := gw_in 341 (by first | rfl | decide +kernel) rfl
set_option maxRecDepth 20000 in
theorem tm_342 : (Cond.code y_T_ordR b_T_ordR 4 (some .int)) ∈ GW := gw_in 342 (by first | rfl | decide +kernel) rfl
set_option maxRecDepth 20000 in
theorem tm_343 : (Cond.methodLink R_Table 70 y_T_at) ∈ GW := gw_in 343 (by first | rfl | decide +kernel) rfl
set_option maxRecDepth 20000 in
theorem tm_344 : (Cond.instanceMethod y_T_at) ∈ GW := gw_in 344 (by first | rfl | decide +kernel) rfl
set_option maxRecDepth 20000 in
theorem tm_345 : (Cond.selects R_Table y_T_at y_T_at) ∈ GW := gw_in 345 (by first | rfl | decide +kernel) rfl
set_option maxRecDepth 20000 in
theorem tm_346 : (Cond.code y_T_at b_T_at 3 (some .long)) ∈ GW := gw_in 346 (by first | rfl | decide +kernel) rfl
set_option maxRecDepth 20000 in
theorem tm_347 : (Cond.methodLink R_Table 74 y_R_at) ∈ GW := gw_in 347 (by first | rfl | decide +kernel) rfl
set_option maxRecDepth 20000 in
theorem tm_348 : (Cond.instanceMethod y_R_at) ∈ GW := gw_in 348 (by first | rfl | decide +kernel) rfl
set_option maxRecDepth 20000 in
theorem tm_349 : (Cond.selects R_Reducer y_R_at y_R_at) ∈ GW := gw_in 349 (by first | rfl | decide +kernel) rfl
set_option maxRecDepth 20000 in
theorem tm_350 : (Cond.code y_R_at b_R_at 2 (some .long)) ∈ GW := gw_in 350 (by first | rfl | decide +kernel) rfl
set_option maxRecDepth 20000 in
theorem tm_351 : (Cond.methodLink R_Table 77 y_Long_cmp) ∈ GW := gw_in 351 (by first | rfl | decide +kernel) rfl
set_option maxRecDepth 20000 in
theorem tm_352 : (Cond.methodLink R_Table 66 y_T_insert) ∈ GW := gw_in 352 (by first | rfl | decide +kernel) rfl
set_option maxRecDepth 20000 in
theorem tm_354 : (Cond.instanceMethod y_T_insert) ∈ GW := gw_in 354 (by first | rfl | decide +kernel) rfl
set_option maxRecDepth 20000 in
theorem tm_355 : (Cond.code y_T_insert b_T_insert 4 none) ∈ GW := gw_in 355 (by first | rfl | decide +kernel) rfl
set_option maxRecDepth 20000 in
theorem tm_356 : (Cond.methodLink R_Table 83 arraycopyName) ∈ GW := gw_in 356 (by first | rfl | decide +kernel) rfl
set_option maxRecDepth 20000 in
theorem tm_357 : (Cond.static arraycopyName) ∈ GW := gw_in 357 (by first | rfl | decide +kernel) rfl
set_option maxRecDepth 20000 in
theorem tm_358 : (Cond.native arraycopyName) ∈ GW := gw_in 358 (by first | rfl | decide +kernel) rfl
set_option maxRecDepth 20000 in
theorem tm_359 : (Cond.methodLink R_Bench 115 y_T_size) ∈ GW := gw_in 359 (by first | rfl | decide +kernel) rfl
set_option maxRecDepth 20000 in
theorem tm_360 : (Cond.instanceMethod y_T_size) ∈ GW := gw_in 360 (by first | rfl | decide +kernel) rfl
set_option maxRecDepth 20000 in
theorem tm_361 : (Cond.selects R_Table y_T_size y_T_size) ∈ GW := gw_in 361 (by first | rfl | decide +kernel) rfl
set_option maxRecDepth 20000 in
theorem tm_362 : (Cond.code y_T_size b_T_size 1 (some .int)) ∈ GW := gw_in 362 (by first | rfl | decide +kernel) rfl
set_option maxRecDepth 20000 in
theorem tm_363 : (Cond.methodLink "CellBenchLaw" 38 y_B_multiple) ∈ GW := gw_in 363 (by first | rfl | decide +kernel) rfl
set_option maxRecDepth 20000 in
theorem tm_364 : (Cond.instanceMethod y_B_multiple) ∈ GW := gw_in 364 (by first | rfl | decide +kernel) rfl
set_option maxRecDepth 20000 in
theorem tm_365 : (Cond.selects R_Bench y_B_multiple y_B_multiple) ∈ GW := gw_in 365 (by first | rfl | decide +kernel) rfl
set_option maxRecDepth 20000 in
theorem tm_366 : (Cond.code y_B_multiple b_B_multiple 6 (some .long)) ∈ GW := gw_in 366 (by first | rfl | decide +kernel) rfl
set_option maxRecDepth 20000 in
theorem tm_367 : (Cond.methodLink R_Bench 118 y_T_at) ∈ GW := gw_in 367 (by first | rfl | decide +kernel) rfl
set_option maxRecDepth 20000 in
theorem tm_368 : (Cond.methodLink "CellBenchLaw" 43 y_B_common) ∈ GW := gw_in 368 (by first | rfl | decide +kernel) rfl
set_option maxRecDepth 20000 in
theorem tm_369 : (Cond.instanceMethod y_B_common) ∈ GW := gw_in 369 (by first | rfl | decide +kernel) rfl
set_option maxRecDepth 20000 in
theorem tm_370 : (Cond.selects R_Bench y_B_common y_B_common) ∈ GW := gw_in 370 (by first | rfl | decide +kernel) rfl
set_option maxRecDepth 20000 in
theorem tm_371 : (Cond.code y_B_common b_B_common 7 (some .int)) ∈ GW := gw_in 371 (by first | rfl | decide +kernel) rfl
set_option maxRecDepth 20000 in
theorem tm_372 : (Cond.methodLink R_Bench 121 y_T_shared) ∈ GW := gw_in 372 (by first | rfl | decide +kernel) rfl
set_option maxRecDepth 20000 in
theorem tm_373 : (Cond.instanceMethod y_T_shared) ∈ GW := gw_in 373 (by first | rfl | decide +kernel) rfl
set_option maxRecDepth 20000 in
theorem tm_374 : (Cond.selects R_Table y_T_shared y_T_shared) ∈ GW := gw_in 374 (by first | rfl | decide +kernel) rfl
set_option maxRecDepth 20000 in
theorem tm_375 : (Cond.code y_T_shared b_T_shared 5 (some .int)) ∈ GW := gw_in 375 (by first | rfl | decide +kernel) rfl
set_option maxRecDepth 20000 in
theorem tm_376 : (Cond.methodLink R_Table 89 y_T_ordO) ∈ GW := gw_in 376 (by first | rfl | decide +kernel) rfl
set_option maxRecDepth 20000 in
theorem tm_378 : (Cond.instanceMethod y_T_ordO) ∈ GW := gw_in 378 (by first | rfl | decide +kernel) rfl
set_option maxRecDepth 20000 in
theorem tm_379 : (Cond.code y_T_ordO b_T_ordO 6 (some .int)) ∈ GW := gw_in 379 (by first | rfl | decide +kernel) rfl
set_option maxRecDepth 20000 in
theorem tm_380 : (Cond.methodLink "CellBenchLaw" 48 y_B_step) ∈ GW := gw_in 380 (by first | rfl | decide +kernel) rfl
set_option maxRecDepth 20000 in
theorem tm_381 : (Cond.instanceMethod y_B_step) ∈ GW := gw_in 381 (by first | rfl | decide +kernel) rfl
set_option maxRecDepth 20000 in
theorem tm_382 : (Cond.selects R_Bench y_B_step y_B_step) ∈ GW := gw_in 382 (by first | rfl | decide +kernel) rfl
set_option maxRecDepth 20000 in
theorem tm_383 : (Cond.code y_B_step b_B_step 6 (some .long)) ∈ GW := gw_in 383 (by first | rfl | decide +kernel) rfl
set_option maxRecDepth 20000 in
theorem tm_384 : (Cond.methodLink R_Bench 125 y_isRouteNumber) ∈ GW := gw_in 384 (by first | rfl | decide +kernel) rfl
set_option maxRecDepth 20000 in
theorem tm_385 : (Cond.static y_isRouteNumber) ∈ GW := gw_in 385 (by first | rfl | decide +kernel) rfl
set_option maxRecDepth 20000 in
theorem tm_386 : (Cond.code y_isRouteNumber b_isRouteNumber 1 (some .boolean)) ∈ GW := gw_in 386 (by first | rfl | decide +kernel) rfl
set_option maxRecDepth 20000 in
theorem tm_387 : (Cond.methodLink R_Bench 128 y_P_prod) ∈ GW := gw_in 387 (by first | rfl | decide +kernel) rfl
set_option maxRecDepth 20000 in
theorem tm_388 : (Cond.methodLink "CellBenchLaw" 54 y_B_shorter) ∈ GW := gw_in 388 (by first | rfl | decide +kernel) rfl
set_option maxRecDepth 20000 in
theorem tm_389 : (Cond.instanceMethod y_B_shorter) ∈ GW := gw_in 389 (by first | rfl | decide +kernel) rfl
set_option maxRecDepth 20000 in
theorem tm_390 : (Cond.selects R_Bench y_B_shorter y_B_shorter) ∈ GW := gw_in 390 (by first | rfl | decide +kernel) rfl
set_option maxRecDepth 20000 in
theorem tm_391 : (Cond.code y_B_shorter b_B_shorter 10 (some .int)) ∈ GW := gw_in 391 (by first | rfl | decide +kernel) rfl
set_option maxRecDepth 20000 in
theorem tm_392 : (Cond.classLink "CellBenchLaw" 10 R_Model) ∈ GW := gw_in 392 (by first | rfl | decide +kernel) rfl
set_option maxRecDepth 20000 in
theorem tm_393 : (Cond.instantiable R_Model 14) ∈ GW := gw_in 393 (by first | rfl | decide +kernel) rfl
set_option maxRecDepth 20000 in
theorem tm_394 : (Cond.methodLink "CellBenchLaw" 12 y_M_init) ∈ GW := gw_in 394 (by first | rfl | decide +kernel) rfl
set_option maxRecDepth 20000 in
theorem tm_395 : (Cond.instanceMethod y_M_init) ∈ GW := gw_in 395 (by first | rfl | decide +kernel) rfl
set_option maxRecDepth 20000 in
theorem tm_396 : (Cond.code y_M_init b_M_init 1 none) ∈ GW := gw_in 396 (by first | rfl | decide +kernel) rfl
set_option maxRecDepth 20000 in
theorem tm_397 : (Cond.methodLink R_Model 1 objectInit) ∈ GW := gw_in 397 (by first | rfl | decide +kernel) rfl
set_option maxRecDepth 20000 in
theorem tm_398 : (Cond.fieldLink R_Model 7 "CellBenchModel" "m" "[I") ∈ GW := gw_in 398 (by first | rfl | decide +kernel) rfl
set_option maxRecDepth 20000 in
theorem tm_399 : (Cond.fieldLink R_Model 13 "CellBenchModel" "cells" "[J") ∈ GW := gw_in 399 (by first | rfl | decide +kernel) rfl
set_option maxRecDepth 20000 in
theorem tm_400 : (Cond.fieldLink R_Model 17 "CellBenchModel" "lows" "[J") ∈ GW := gw_in 400 (by first | rfl | decide +kernel) rfl
set_option maxRecDepth 20000 in
theorem tm_401 : (Cond.fieldLink R_Model 20 "CellBenchModel" "symmetry" "[I") ∈ GW := gw_in 401 (by first | rfl | decide +kernel) rfl
set_option maxRecDepth 20000 in
theorem tm_402 : (Cond.fieldLink R_Model 23 "CellBenchModel" "stepsOf" "[I") ∈ GW := gw_in 402 (by first | rfl | decide +kernel) rfl
set_option maxRecDepth 20000 in
theorem tm_403 : (Cond.fieldLink R_Model 42 "CellBenchModel" "cellMany" "I") ∈ GW := gw_in 403 (by first | rfl | decide +kernel) rfl
set_option maxRecDepth 20000 in
theorem tm_404 : (Cond.fieldLink R_Model 57 "CellBenchModel" "steps" "I") ∈ GW := gw_in 404 (by first | rfl | decide +kernel) rfl
set_option maxRecDepth 20000 in
theorem tm_405 : (Cond.fieldLink R_Model 26 "CellBenchModel" "six" "[J") ∈ GW := gw_in 405 (by first | rfl | decide +kernel) rfl
set_option maxRecDepth 20000 in
theorem tm_406 : (Cond.fieldLink R_Model 29 "CellBenchModel" "multi" "[J") ∈ GW := gw_in 406 (by first | rfl | decide +kernel) rfl
set_option maxRecDepth 20000 in
theorem tm_407 : (Cond.fieldLink R_Model 32 "CellBenchModel" "comes" "[I") ∈ GW := gw_in 407 (by first | rfl | decide +kernel) rfl
set_option maxRecDepth 20000 in
theorem tm_408 : (Cond.fieldLink R_Model 102 "CellBenchModel" "multis" "I") ∈ GW := gw_in 408 (by first | rfl | decide +kernel) rfl
set_option maxRecDepth 20000 in
theorem tm_409 : (Cond.fieldLink R_Model 35 "CellBenchModel" "multiCell" "I") ∈ GW := gw_in 409 (by first | rfl | decide +kernel) rfl
set_option maxRecDepth 20000 in
theorem tm_410 : (Cond.fieldLink R_Model 99 "CellBenchModel" "multiBy" "I") ∈ GW := gw_in 410 (by first | rfl | decide +kernel) rfl
set_option maxRecDepth 20000 in
theorem tm_411 : (Cond.fieldLink R_Model 39 "CellBenchModel" "other" "[J") ∈ GW := gw_in 411 (by first | rfl | decide +kernel) rfl
set_option maxRecDepth 20000 in
theorem tm_412 : (Cond.laysFinal "CellBenchModel" "CellBenchModel" "m" "[I") ∈ GW := gw_in 412 (by first | rfl | decide +kernel) rfl
set_option maxRecDepth 20000 in
theorem tm_414 : (Cond.laysFinal "CellBenchModel" "CellBenchModel" "cells" "[J") ∈ GW := gw_in 414 (by first | rfl | decide +kernel) rfl
set_option maxRecDepth 20000 in
theorem tm_416 : (Cond.laysFinal "CellBenchModel" "CellBenchModel" "lows" "[J") ∈ GW := gw_in 416 (by first | rfl | decide +kernel) rfl
set_option maxRecDepth 20000 in
theorem tm_418 : (Cond.laysFinal "CellBenchModel" "CellBenchModel" "symmetry" "[I") ∈ GW := gw_in 418 (by first | rfl | decide +kernel) rfl
set_option maxRecDepth 20000 in
theorem tm_420 : (Cond.laysFinal "CellBenchModel" "CellBenchModel" "stepsOf" "[I") ∈ GW := gw_in 420 (by first | rfl | decide +kernel) rfl
set_option maxRecDepth 20000 in
theorem tm_422 : (Cond.lays "CellBenchModel" "CellBenchModel" "cellMany" "I") ∈ GW := gw_in 422 (by first | rfl | decide +kernel) rfl
set_option maxRecDepth 20000 in
theorem tm_424 : (Cond.lays "CellBenchModel" "CellBenchModel" "steps" "I") ∈ GW := gw_in 424 (by first | rfl | decide +kernel) rfl
set_option maxRecDepth 20000 in
theorem tm_426 : (Cond.laysFinal "CellBenchModel" "CellBenchModel" "six" "[J") ∈ GW := gw_in 426 (by first | rfl | decide +kernel) rfl
set_option maxRecDepth 20000 in
theorem tm_428 : (Cond.laysFinal "CellBenchModel" "CellBenchModel" "multi" "[J") ∈ GW := gw_in 428 (by first | rfl | decide +kernel) rfl
set_option maxRecDepth 20000 in
theorem tm_430 : (Cond.laysFinal "CellBenchModel" "CellBenchModel" "comes" "[I") ∈ GW := gw_in 430 (by first | rfl | decide +kernel) rfl
set_option maxRecDepth 20000 in
theorem tm_432 : (Cond.lays "CellBenchModel" "CellBenchModel" "multis" "I") ∈ GW := gw_in 432 (by first | rfl | decide +kernel) rfl
set_option maxRecDepth 20000 in
theorem tm_434 : (Cond.lays "CellBenchModel" "CellBenchModel" "multiCell" "I") ∈ GW := gw_in 434 (by first | rfl | decide +kernel) rfl
set_option maxRecDepth 20000 in
theorem tm_436 : (Cond.lays "CellBenchModel" "CellBenchModel" "multiBy" "I") ∈ GW := gw_in 436 (by first | rfl | decide +kernel) rfl
set_option maxRecDepth 20000 in
theorem tm_438 : (Cond.laysFinal "CellBenchModel" "CellBenchModel" "other" "[J") ∈ GW := gw_in 438 (by first | rfl | decide +kernel) rfl
set_option maxRecDepth 20000 in
theorem tm_441 : (Cond.arrayClass .int) ∈ GW := gw_in 441 (by first | rfl | decide +kernel) rfl
set_option maxRecDepth 20000 in
theorem tm_442 : (Cond.methodLink "CellBenchLaw" 17 y_M_cell) ∈ GW := gw_in 442 (by first | rfl | decide +kernel) rfl
set_option maxRecDepth 20000 in
theorem tm_443 : (Cond.instanceMethod y_M_cell) ∈ GW := gw_in 443 (by first | rfl | decide +kernel) rfl
set_option maxRecDepth 20000 in
theorem tm_444 : (Cond.selects R_Model y_M_cell y_M_cell) ∈ GW := gw_in 444 (by first | rfl | decide +kernel) rfl
set_option maxRecDepth 20000 in
theorem tm_445 : (Cond.code y_M_cell b_M_cell 11 (some .int)) ∈ GW := gw_in 445 (by first | rfl | decide +kernel) rfl
set_option maxRecDepth 20000 in
theorem tm_446 : (Cond.constantLong R_Model 45 10000) ∈ GW := gw_in 446 (by first | rfl | decide +kernel) rfl
set_option maxRecDepth 20000 in
theorem tm_447 : (Cond.methodLink R_Model 47 y_M_between) ∈ GW := gw_in 447 (by first | rfl | decide +kernel) rfl
set_option maxRecDepth 20000 in
theorem tm_448 : (Cond.static y_M_between) ∈ GW := gw_in 448 (by first | rfl | decide +kernel) rfl
set_option maxRecDepth 20000 in
theorem tm_449 : (Cond.code y_M_between b_M_between 6 (some .boolean)) ∈ GW := gw_in 449 (by first | rfl | decide +kernel) rfl
set_option maxRecDepth 20000 in
theorem tm_450 : (Cond.constantLong R_Model 51 (-10000)) ∈ GW := gw_in 450 (by first | rfl | decide +kernel) rfl
set_option maxRecDepth 20000 in
theorem tm_451 : (Cond.methodLink R_Model 53 y_M_det) ∈ GW := gw_in 451 (by first | rfl | decide +kernel) rfl
set_option maxRecDepth 20000 in
theorem tm_452 : (Cond.static y_M_det) ∈ GW := gw_in 452 (by first | rfl | decide +kernel) rfl
set_option maxRecDepth 20000 in
theorem tm_453 : (Cond.code y_M_det b_M_det 14 (some .long)) ∈ GW := gw_in 453 (by first | rfl | decide +kernel) rfl
set_option maxRecDepth 20000 in
theorem tm_454 : (Cond.methodLink R_Model 60 y_M_reduce) ∈ GW := gw_in 454 (by first | rfl | decide +kernel) rfl
set_option maxRecDepth 20000 in
theorem tm_456 : (Cond.instanceMethod y_M_reduce) ∈ GW := gw_in 456 (by first | rfl | decide +kernel) rfl
set_option maxRecDepth 20000 in
theorem tm_457 : (Cond.code y_M_reduce b_M_reduce 3 none) ∈ GW := gw_in 457 (by first | rfl | decide +kernel) rfl
set_option maxRecDepth 20000 in
theorem tm_458 : (Cond.constantLong R_Model 71 2) ∈ GW := gw_in 458 (by first | rfl | decide +kernel) rfl
set_option maxRecDepth 20000 in
theorem tm_459 : (Cond.methodLink R_Model 73 y_M_goes) ∈ GW := gw_in 459 (by first | rfl | decide +kernel) rfl
set_option maxRecDepth 20000 in
theorem tm_461 : (Cond.instanceMethod y_M_goes) ∈ GW := gw_in 461 (by first | rfl | decide +kernel) rfl
set_option maxRecDepth 20000 in
theorem tm_462 : (Cond.code y_M_goes b_M_goes 17 (some .boolean)) ∈ GW := gw_in 462 (by first | rfl | decide +kernel) rfl
set_option maxRecDepth 20000 in
theorem tm_463 : (Cond.methodLink R_Model 77 y_M_size) ∈ GW := gw_in 463 (by first | rfl | decide +kernel) rfl
set_option maxRecDepth 20000 in
theorem tm_464 : (Cond.static y_M_size) ∈ GW := gw_in 464 (by first | rfl | decide +kernel) rfl
set_option maxRecDepth 20000 in
theorem tm_465 : (Cond.code y_M_size b_M_size 2 (some .long)) ∈ GW := gw_in 465 (by first | rfl | decide +kernel) rfl
set_option maxRecDepth 20000 in
theorem tm_466 : (Cond.methodLink R_Model 81 y_M_exch) ∈ GW := gw_in 466 (by first | rfl | decide +kernel) rfl
set_option maxRecDepth 20000 in
theorem tm_468 : (Cond.instanceMethod y_M_exch) ∈ GW := gw_in 468 (by first | rfl | decide +kernel) rfl
set_option maxRecDepth 20000 in
theorem tm_469 : (Cond.code y_M_exch b_M_exch 5 none) ∈ GW := gw_in 469 (by first | rfl | decide +kernel) rfl
set_option maxRecDepth 20000 in
theorem tm_470 : (Cond.constantLong R_Model 85 (-1)) ∈ GW := gw_in 470 (by first | rfl | decide +kernel) rfl
set_option maxRecDepth 20000 in
theorem tm_471 : (Cond.methodLink R_Model 63 y_M_open) ∈ GW := gw_in 471 (by first | rfl | decide +kernel) rfl
set_option maxRecDepth 20000 in
theorem tm_473 : (Cond.instanceMethod y_M_open) ∈ GW := gw_in 473 (by first | rfl | decide +kernel) rfl
set_option maxRecDepth 20000 in
theorem tm_474 : (Cond.code y_M_open b_M_open 4 none) ∈ GW := gw_in 474 (by first | rfl | decide +kernel) rfl
set_option maxRecDepth 20000 in
theorem tm_475 : (Cond.methodLink R_Model 67 y_M_keeps6) ∈ GW := gw_in 475 (by first | rfl | decide +kernel) rfl
set_option maxRecDepth 20000 in
theorem tm_477 : (Cond.instanceMethod y_M_keeps6) ∈ GW := gw_in 477 (by first | rfl | decide +kernel) rfl
set_option maxRecDepth 20000 in
theorem tm_478 : (Cond.code y_M_keeps6 b_M_keeps6 3 (some .boolean)) ∈ GW := gw_in 478 (by first | rfl | decide +kernel) rfl
set_option maxRecDepth 20000 in
theorem tm_479 : (Cond.methodLink R_Model 87 y_M_dot) ∈ GW := gw_in 479 (by first | rfl | decide +kernel) rfl
set_option maxRecDepth 20000 in
theorem tm_480 : (Cond.static y_M_dot) ∈ GW := gw_in 480 (by first | rfl | decide +kernel) rfl
set_option maxRecDepth 20000 in
theorem tm_481 : (Cond.code y_M_dot b_M_dot 14 (some .long)) ∈ GW := gw_in 481 (by first | rfl | decide +kernel) rfl
set_option maxRecDepth 20000 in
theorem tm_482 : (Cond.methodLink "CellBenchLaw" 22 y_M_reduced) ∈ GW := gw_in 482 (by first | rfl | decide +kernel) rfl
set_option maxRecDepth 20000 in
theorem tm_483 : (Cond.instanceMethod y_M_reduced) ∈ GW := gw_in 483 (by first | rfl | decide +kernel) rfl
set_option maxRecDepth 20000 in
theorem tm_484 : (Cond.selects R_Model y_M_reduced y_M_reduced) ∈ GW := gw_in 484 (by first | rfl | decide +kernel) rfl
set_option maxRecDepth 20000 in
theorem tm_485 : (Cond.code y_M_reduced b_M_reduced 3 (some .long)) ∈ GW := gw_in 485 (by first | rfl | decide +kernel) rfl
set_option maxRecDepth 20000 in
theorem tm_486 : (Cond.methodLink R_Model 91 y_M_isCell) ∈ GW := gw_in 486 (by first | rfl | decide +kernel) rfl
set_option maxRecDepth 20000 in
theorem tm_488 : (Cond.instanceMethod y_M_isCell) ∈ GW := gw_in 488 (by first | rfl | decide +kernel) rfl
set_option maxRecDepth 20000 in
theorem tm_489 : (Cond.code y_M_isCell b_M_isCell 2 (some .boolean)) ∈ GW := gw_in 489 (by first | rfl | decide +kernel) rfl
set_option maxRecDepth 20000 in
theorem tm_490 : (Cond.methodLink "CellBenchLaw" 27 y_M_keeps) ∈ GW := gw_in 490 (by first | rfl | decide +kernel) rfl
set_option maxRecDepth 20000 in
theorem tm_491 : (Cond.instanceMethod y_M_keeps) ∈ GW := gw_in 491 (by first | rfl | decide +kernel) rfl
set_option maxRecDepth 20000 in
theorem tm_492 : (Cond.selects R_Model y_M_keeps y_M_keeps) ∈ GW := gw_in 492 (by first | rfl | decide +kernel) rfl
set_option maxRecDepth 20000 in
theorem tm_493 : (Cond.code y_M_keeps b_M_keeps 3 (some .boolean)) ∈ GW := gw_in 493 (by first | rfl | decide +kernel) rfl
set_option maxRecDepth 20000 in
theorem tm_494 : (Cond.methodLink "CellBenchLaw" 32 y_M_same) ∈ GW := gw_in 494 (by first | rfl | decide +kernel) rfl
set_option maxRecDepth 20000 in
theorem tm_495 : (Cond.instanceMethod y_M_same) ∈ GW := gw_in 495 (by first | rfl | decide +kernel) rfl
set_option maxRecDepth 20000 in
theorem tm_496 : (Cond.selects R_Model y_M_same y_M_same) ∈ GW := gw_in 496 (by first | rfl | decide +kernel) rfl
set_option maxRecDepth 20000 in
theorem tm_497 : (Cond.code y_M_same b_M_same 3 (some .int)) ∈ GW := gw_in 497 (by first | rfl | decide +kernel) rfl
set_option maxRecDepth 20000 in
theorem tm_498 : (Cond.methodLink R_Model 95 y_M_areSame) ∈ GW := gw_in 498 (by first | rfl | decide +kernel) rfl
set_option maxRecDepth 20000 in
theorem tm_500 : (Cond.instanceMethod y_M_areSame) ∈ GW := gw_in 500 (by first | rfl | decide +kernel) rfl
set_option maxRecDepth 20000 in
theorem tm_501 : (Cond.code y_M_areSame b_M_areSame 4 (some .boolean)) ∈ GW := gw_in 501 (by first | rfl | decide +kernel) rfl
set_option maxRecDepth 20000 in
theorem tm_502 : (Cond.methodLink "CellBenchLaw" 37 y_M_multiples) ∈ GW := gw_in 502 (by first | rfl | decide +kernel) rfl
set_option maxRecDepth 20000 in
theorem tm_503 : (Cond.instanceMethod y_M_multiples) ∈ GW := gw_in 503 (by first | rfl | decide +kernel) rfl
set_option maxRecDepth 20000 in
theorem tm_504 : (Cond.selects R_Model y_M_multiples y_M_multiples) ∈ GW := gw_in 504 (by first | rfl | decide +kernel) rfl
set_option maxRecDepth 20000 in
theorem tm_505 : (Cond.code y_M_multiples b_M_multiples 3 (some .int)) ∈ GW := gw_in 505 (by first | rfl | decide +kernel) rfl
set_option maxRecDepth 20000 in
theorem tm_506 : (Cond.methodLink R_Model 113 y_M_isMul) ∈ GW := gw_in 506 (by first | rfl | decide +kernel) rfl
set_option maxRecDepth 20000 in
theorem tm_508 : (Cond.instanceMethod y_M_isMul) ∈ GW := gw_in 508 (by first | rfl | decide +kernel) rfl
set_option maxRecDepth 20000 in
theorem tm_509 : (Cond.code y_M_isMul b_M_isMul 3 (some .boolean)) ∈ GW := gw_in 509 (by first | rfl | decide +kernel) rfl
set_option maxRecDepth 20000 in
theorem tm_510 : (Cond.methodLink R_Model 116 y_M_mult) ∈ GW := gw_in 510 (by first | rfl | decide +kernel) rfl
set_option maxRecDepth 20000 in
theorem tm_512 : (Cond.instanceMethod y_M_mult) ∈ GW := gw_in 512 (by first | rfl | decide +kernel) rfl
set_option maxRecDepth 20000 in
theorem tm_513 : (Cond.code y_M_mult b_M_mult 9 none) ∈ GW := gw_in 513 (by first | rfl | decide +kernel) rfl
set_option maxRecDepth 20000 in
theorem tm_514 : (Cond.methodLink R_Model 105 y_M_one) ∈ GW := gw_in 514 (by first | rfl | decide +kernel) rfl
set_option maxRecDepth 20000 in
theorem tm_516 : (Cond.instanceMethod y_M_one) ∈ GW := gw_in 516 (by first | rfl | decide +kernel) rfl
set_option maxRecDepth 20000 in
theorem tm_517 : (Cond.code y_M_one b_M_one 10 none) ∈ GW := gw_in 517 (by first | rfl | decide +kernel) rfl
set_option maxRecDepth 20000 in
theorem tm_518 : (Cond.methodLink R_Model 109 y_M_comp) ∈ GW := gw_in 518 (by first | rfl | decide +kernel) rfl
set_option maxRecDepth 20000 in
theorem tm_520 : (Cond.instanceMethod y_M_comp) ∈ GW := gw_in 520 (by first | rfl | decide +kernel) rfl
set_option maxRecDepth 20000 in
theorem tm_521 : (Cond.code y_M_comp b_M_comp 3 (some .int)) ∈ GW := gw_in 521 (by first | rfl | decide +kernel) rfl
set_option maxRecDepth 20000 in
theorem tm_522 : (Cond.methodLink "CellBenchLaw" 42 y_M_multiple) ∈ GW := gw_in 522 (by first | rfl | decide +kernel) rfl
set_option maxRecDepth 20000 in
theorem tm_523 : (Cond.instanceMethod y_M_multiple) ∈ GW := gw_in 523 (by first | rfl | decide +kernel) rfl
set_option maxRecDepth 20000 in
theorem tm_524 : (Cond.selects R_Model y_M_multiple y_M_multiple) ∈ GW := gw_in 524 (by first | rfl | decide +kernel) rfl
set_option maxRecDepth 20000 in
theorem tm_525 : (Cond.code y_M_multiple b_M_multiple 5 (some .long)) ∈ GW := gw_in 525 (by first | rfl | decide +kernel) rfl
set_option maxRecDepth 20000 in
theorem tm_526 : (Cond.methodLink "CellBenchLaw" 47 y_M_common) ∈ GW := gw_in 526 (by first | rfl | decide +kernel) rfl
set_option maxRecDepth 20000 in
theorem tm_527 : (Cond.instanceMethod y_M_common) ∈ GW := gw_in 527 (by first | rfl | decide +kernel) rfl
set_option maxRecDepth 20000 in
theorem tm_528 : (Cond.selects R_Model y_M_common y_M_common) ∈ GW := gw_in 528 (by first | rfl | decide +kernel) rfl
set_option maxRecDepth 20000 in
theorem tm_529 : (Cond.code y_M_common b_M_common 11 (some .int)) ∈ GW := gw_in 529 (by first | rfl | decide +kernel) rfl
set_option maxRecDepth 20000 in
theorem tm_530 : (Cond.methodLink "CellBenchLaw" 51 y_M_step) ∈ GW := gw_in 530 (by first | rfl | decide +kernel) rfl
set_option maxRecDepth 20000 in
theorem tm_531 : (Cond.instanceMethod y_M_step) ∈ GW := gw_in 531 (by first | rfl | decide +kernel) rfl
set_option maxRecDepth 20000 in
theorem tm_532 : (Cond.selects R_Model y_M_step y_M_step) ∈ GW := gw_in 532 (by first | rfl | decide +kernel) rfl
set_option maxRecDepth 20000 in
theorem tm_533 : (Cond.code y_M_step b_M_step 5 (some .long)) ∈ GW := gw_in 533 (by first | rfl | decide +kernel) rfl
set_option maxRecDepth 20000 in
theorem tm_534 : (Cond.constantLong R_Model 119 (-1000)) ∈ GW := gw_in 534 (by first | rfl | decide +kernel) rfl
set_option maxRecDepth 20000 in
theorem tm_535 : (Cond.constantLong R_Model 121 1000) ∈ GW := gw_in 535 (by first | rfl | decide +kernel) rfl
set_option maxRecDepth 20000 in
theorem tm_536 : (Cond.methodLink "CellBenchLaw" 58 y_M_shorter) ∈ GW := gw_in 536 (by first | rfl | decide +kernel) rfl
set_option maxRecDepth 20000 in
theorem tm_537 : (Cond.instanceMethod y_M_shorter) ∈ GW := gw_in 537 (by first | rfl | decide +kernel) rfl
set_option maxRecDepth 20000 in
theorem tm_538 : (Cond.selects R_Model y_M_shorter y_M_shorter) ∈ GW := gw_in 538 (by first | rfl | decide +kernel) rfl
set_option maxRecDepth 20000 in
theorem tm_539 : (Cond.code y_M_shorter b_M_shorter 8 (some .int)) ∈ GW := gw_in 539 (by first | rfl | decide +kernel) rfl
set_option maxRecDepth 20000 in
theorem tm_540 : (Cond.constantLong "CellBenchLaw" 52 4294967295) ∈ GW := gw_in 540 (by first | rfl | decide +kernel) rfl
theorem i_Products : ∀ w ∈ u_ws R_Products F_Products 6, w ∈ GW := by
  intro w hw
  obtain ⟨k, hk, rfl⟩ := List.mem_map.mp hw
  have hk := List.mem_range.mp hk
  match k, hk with
  | 0, _ => exact tm_145
  | 1, _ => exact tm_147
  | 2, _ => exact tm_149
  | 3, _ => exact tm_151
  | 4, _ => exact tm_153
  | 5, _ => exact tm_155
  | k + 6, h => omega
theorem i_Reducer : ∀ w ∈ u_ws R_Reducer F_Reducer 7, w ∈ GW := by
  intro w hw
  obtain ⟨k, hk, rfl⟩ := List.mem_map.mp hw
  have hk := List.mem_range.mp hk
  match k, hk with
  | 0, _ => exact tm_63
  | 1, _ => exact tm_65
  | 2, _ => exact tm_67
  | 3, _ => exact tm_69
  | 4, _ => exact tm_71
  | 5, _ => exact tm_73
  | 6, _ => exact tm_75
  | k + 7, h => omega
theorem i_Table : ∀ w ∈ u_ws R_Table F_Table 5, w ∈ GW := by
  intro w hw
  obtain ⟨k, hk, rfl⟩ := List.mem_map.mp hw
  have hk := List.mem_range.mp hk
  match k, hk with
  | 0, _ => exact tm_89
  | 1, _ => exact tm_91
  | 2, _ => exact tm_93
  | 3, _ => exact tm_95
  | 4, _ => exact tm_97
  | k + 5, h => omega
theorem i_Cell : ∀ w ∈ u_ws R_Cell F_Cell 4, w ∈ GW := by
  intro w hw
  obtain ⟨k, hk, rfl⟩ := List.mem_map.mp hw
  have hk := List.mem_range.mp hk
  match k, hk with
  | 0, _ => exact tm_265
  | 1, _ => exact tm_267
  | 2, _ => exact tm_269
  | 3, _ => exact tm_271
  | k + 4, h => omega
theorem i_Bench : ∀ w ∈ u_ws R_Bench F_Bench 5, w ∈ GW := by
  intro w hw
  obtain ⟨k, hk, rfl⟩ := List.mem_map.mp hw
  have hk := List.mem_range.mp hk
  match k, hk with
  | 0, _ => exact tm_106
  | 1, _ => exact tm_108
  | 2, _ => exact tm_110
  | 3, _ => exact tm_112
  | 4, _ => exact tm_114
  | k + 5, h => omega
theorem i_Model : ∀ w ∈ u_ws R_Model F_Model 14, w ∈ GW := by
  intro w hw
  obtain ⟨k, hk, rfl⟩ := List.mem_map.mp hw
  have hk := List.mem_range.mp hk
  match k, hk with
  | 0, _ => exact tm_412
  | 1, _ => exact tm_414
  | 2, _ => exact tm_416
  | 3, _ => exact tm_418
  | 4, _ => exact tm_420
  | 5, _ => exact tm_422
  | 6, _ => exact tm_424
  | 7, _ => exact tm_426
  | 8, _ => exact tm_428
  | 9, _ => exact tm_430
  | 10, _ => exact tm_432
  | 11, _ => exact tm_434
  | 12, _ => exact tm_436
  | 13, _ => exact tm_438
  | k + 14, h => omega
def bnd {α β : Type} (a : α) (f : α → β) : β := f a
theorem bnd_eq {α β : Type} (a : α) (f : α → β) : bnd a f = f a := rfl
