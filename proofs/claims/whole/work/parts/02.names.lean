/-! NAMES: methods, fields, classes -/
abbrev mb_B_init : ByteArray := prog_1_method_1_code
def mn_B_init : MethodName := ⟨"OrderBench", "<init>", "()V"⟩
abbrev mb_jO_init : ByteArray := object_method_1_code
def mn_jO_init : MethodName := ⟨"java/lang/Object", "<init>", "()V"⟩
abbrev mb_R_init : ByteArray := prog_9_method_1_code
def mn_R_init : MethodName := ⟨"OrderBench$Row", "<init>", "()V"⟩
abbrev mb_J_init : ByteArray := prog_5_method_1_code
def mn_J_init : MethodName := ⟨"OrderBench$Judge", "<init>", "()V"⟩
abbrev mb_Pi_init : ByteArray := prog_8_method_1_code
def mn_Pi_init : MethodName := ⟨"OrderBench$Pile", "<init>", "(LOrderBench$Row;LOrderBench$Judge;)V"⟩
abbrev mb_B_within : ByteArray := prog_1_method_12_code
def mn_B_within : MethodName := ⟨"OrderBench", "within", "()Z"⟩
abbrev mb_L_add : ByteArray := method_3_code
def mn_L_add : MethodName := ⟨"OrderBenchLaw", "add", "(LOrderBench;IJI[J)I"⟩
abbrev mb_B_add : ByteArray := prog_1_method_2_code
def mn_B_add : MethodName := ⟨"OrderBench", "add", "(IJI)I"⟩
abbrev mb_B_rowAt : ByteArray := prog_1_method_23_code
def mn_B_rowAt : MethodName := ⟨"OrderBench", "rowAt", "(I)LOrderBench$Row;"⟩
abbrev mb_jX_init : ByteArray := prog_15_method_2_code
def mn_jX_init : MethodName := ⟨"java/lang/IndexOutOfBoundsException", "<init>", "(Ljava/lang/String;)V"⟩
abbrev mb_jR_init : ByteArray := prog_19_method_2_code
def mn_jR_init : MethodName := ⟨"java/lang/RuntimeException", "<init>", "(Ljava/lang/String;)V"⟩
abbrev mb_jE_init : ByteArray := prog_12_method_2_code
def mn_jE_init : MethodName := ⟨"java/lang/Exception", "<init>", "(Ljava/lang/String;)V"⟩
abbrev mb_jY_init : ByteArray := prog_14_method_2_code
def mn_jY_init : MethodName := ⟨"java/lang/IllegalStateException", "<init>", "(Ljava/lang/String;)V"⟩
abbrev mb_R_put : ByteArray := prog_9_method_2_code
def mn_R_put : MethodName := ⟨"OrderBench$Row", "put", "(IJI)V"⟩
abbrev mb_L_fill : ByteArray := method_4_code
def mn_L_fill : MethodName := ⟨"OrderBenchLaw", "fill", "(LOrderBench;IIIJI)I"⟩
abbrev mb_B_fill : ByteArray := prog_1_method_3_code
def mn_B_fill : MethodName := ⟨"OrderBench", "fill", "(IIIJI)V"⟩
abbrev mb_jZ_init : ByteArray := prog_13_method_2_code
def mn_jZ_init : MethodName := ⟨"java/lang/IllegalArgumentException", "<init>", "(Ljava/lang/String;)V"⟩
abbrev mb_R_numberTags : ByteArray := prog_9_method_8_code
def mn_R_numberTags : MethodName := ⟨"OrderBench$Row", "numberTags", "()V"⟩
abbrev mb_B_keyOfKind : ByteArray := prog_1_method_30_code
def mn_B_keyOfKind : MethodName := ⟨"OrderBench", "keyOfKind", "(IIIJI)J"⟩
abbrev mb_B_scattered : ByteArray := prog_1_method_31_code
def mn_B_scattered : MethodName := ⟨"OrderBench", "scattered", "(JII)J"⟩
abbrev mb_B_changeNeighbours : ByteArray := prog_1_method_32_code
def mn_B_changeNeighbours : MethodName := ⟨"OrderBench", "changeNeighbours", "(LOrderBench$Row;I)V"⟩
abbrev mb_L_cut : ByteArray := method_5_code
def mn_L_cut : MethodName := ⟨"OrderBenchLaw", "cut", "(LOrderBench;II)I"⟩
abbrev mb_B_cut : ByteArray := prog_1_method_4_code
def mn_B_cut : MethodName := ⟨"OrderBench", "cut", "(II)V"⟩
abbrev mb_L_swap : ByteArray := method_6_code
def mn_L_swap : MethodName := ⟨"OrderBenchLaw", "swap", "(LOrderBench;III)I"⟩
abbrev mb_B_swap : ByteArray := prog_1_method_5_code
def mn_B_swap : MethodName := ⟨"OrderBench", "swap", "(III)V"⟩
abbrev mb_B_checkEntry : ByteArray := prog_1_method_24_code
def mn_B_checkEntry : MethodName := ⟨"OrderBench", "checkEntry", "(LOrderBench$Row;I)V"⟩
abbrev mb_R_change : ByteArray := prog_9_method_6_code
def mn_R_change : MethodName := ⟨"OrderBench$Row", "change", "(II)V"⟩
abbrev mb_R_take : ByteArray := prog_9_method_3_code
def mn_R_take : MethodName := ⟨"OrderBench$Row", "take", "(ILOrderBench$Row;I)V"⟩
abbrev mb_L_number : ByteArray := method_7_code
def mn_L_number : MethodName := ⟨"OrderBenchLaw", "number", "(LOrderBench;I)I"⟩
abbrev mb_B_number : ByteArray := prog_1_method_6_code
def mn_B_number : MethodName := ⟨"OrderBench", "number", "(I)V"⟩
abbrev mb_L_copy : ByteArray := method_8_code
def mn_L_copy : MethodName := ⟨"OrderBenchLaw", "copy", "(LOrderBench;II)I"⟩
abbrev mb_B_copy : ByteArray := prog_1_method_7_code
def mn_B_copy : MethodName := ⟨"OrderBench", "copy", "(II)V"⟩
abbrev mb_R_becomeLike : ByteArray := prog_9_method_5_code
def mn_R_becomeLike : MethodName := ⟨"OrderBench$Row", "becomeLike", "(LOrderBench$Row;)V"⟩
abbrev mb_R_takeMany : ByteArray := prog_9_method_4_code
def mn_R_takeMany : MethodName := ⟨"OrderBench$Row", "takeMany", "(ILOrderBench$Row;II)V"⟩
abbrev mb_L_size : ByteArray := method_9_code
def mn_L_size : MethodName := ⟨"OrderBenchLaw", "size", "(LOrderBench;I[J)I"⟩
abbrev mb_B_size : ByteArray := prog_1_method_8_code
def mn_B_size : MethodName := ⟨"OrderBench", "size", "(I)I"⟩
abbrev mb_L_key : ByteArray := method_10_code
def mn_L_key : MethodName := ⟨"OrderBenchLaw", "key", "(LOrderBench;II[J)I"⟩
abbrev mb_B_key : ByteArray := prog_1_method_9_code
def mn_B_key : MethodName := ⟨"OrderBench", "key", "(II)J"⟩
abbrev mb_L_tag : ByteArray := method_11_code
def mn_L_tag : MethodName := ⟨"OrderBenchLaw", "tag", "(LOrderBench;II[J)I"⟩
abbrev mb_B_tag : ByteArray := prog_1_method_10_code
def mn_B_tag : MethodName := ⟨"OrderBench", "tag", "(II)I"⟩
abbrev mb_L_sort : ByteArray := method_12_code
def mn_L_sort : MethodName := ⟨"OrderBenchLaw", "sort", "(LOrderBench;III)I"⟩
abbrev mb_B_sort : ByteArray := prog_1_method_11_code
def mn_B_sort : MethodName := ⟨"OrderBench", "sort", "(III)V"⟩
abbrev mb_B_checkOrder : ByteArray := prog_1_method_25_code
def mn_B_checkOrder : MethodName := ⟨"OrderBench", "checkOrder", "(I)V"⟩
abbrev mb_B_checkWay : ByteArray := prog_1_method_26_code
def mn_B_checkWay : MethodName := ⟨"OrderBench", "checkWay", "(II)V"⟩
abbrev mb_C_serves : ByteArray := prog_2_method_2_code
def mn_C_serves : MethodName := ⟨"OrderBench$Counting", "serves", "(I)Z"⟩
abbrev mb_B_isSteady : ByteArray := prog_1_method_34_code
def mn_B_isSteady : MethodName := ⟨"OrderBench", "isSteady", "(I)Z"⟩
abbrev mb_J_begin : ByteArray := prog_5_method_2_code
def mn_J_begin : MethodName := ⟨"OrderBench$Judge", "begin", "(IZ)V"⟩
abbrev mb_In_arrange : ByteArray := prog_4_method_2_code
def mn_In_arrange : MethodName := ⟨"OrderBench$Insertion", "arrange", "(LOrderBench$Row;LOrderBench$Judge;III)V"⟩
abbrev mb_J_placeIn : ByteArray := prog_5_method_8_code
def mn_J_placeIn : MethodName := ⟨"OrderBench$Judge", "placeIn", "(LOrderBench$Row;IIJIZ)I"⟩
abbrev mb_J_compare : ByteArray := prog_5_method_3_code
def mn_J_compare : MethodName := ⟨"OrderBench$Judge", "compare", "(JIJI)I"⟩
abbrev mb_J_compareKeys : ByteArray := prog_5_method_10_code
def mn_J_compareKeys : MethodName := ⟨"OrderBench$Judge", "compareKeys", "(IJJ)I"⟩
abbrev mb_jL_bitCount : ByteArray := prog_17_method_50_code
def mn_jL_bitCount : MethodName := ⟨"java/lang/Long", "bitCount", "(J)I"⟩
abbrev mb_jI_compare : ByteArray := prog_16_method_40_code
def mn_jI_compare : MethodName := ⟨"java/lang/Integer", "compare", "(II)I"⟩
abbrev mb_jL_compare : ByteArray := prog_17_method_42_code
def mn_jL_compare : MethodName := ⟨"java/lang/Long", "compare", "(JJ)I"⟩
abbrev mb_H_arrange : ByteArray := prog_3_method_2_code
def mn_H_arrange : MethodName := ⟨"OrderBench$Heap", "arrange", "(LOrderBench$Row;LOrderBench$Judge;II)V"⟩
abbrev mb_H_sink : ByteArray := prog_3_method_3_code
def mn_H_sink : MethodName := ⟨"OrderBench$Heap", "sink", "(LOrderBench$Row;LOrderBench$Judge;III)V"⟩
abbrev mb_J_before : ByteArray := prog_5_method_4_code
def mn_J_before : MethodName := ⟨"OrderBench$Judge", "before", "(LOrderBench$Row;ILOrderBench$Row;I)Z"⟩
abbrev mb_B_doublings : ByteArray := prog_1_method_36_code
def mn_B_doublings : MethodName := ⟨"OrderBench", "doublings", "(I)I"⟩
abbrev mb_P_arrange : ByteArray := prog_7_method_2_code
def mn_P_arrange : MethodName := ⟨"OrderBench$Parting", "arrange", "(LOrderBench$Row;LOrderBench$Judge;III)V"⟩
abbrev mb_P_middleOfThree : ByteArray := prog_7_method_3_code
def mn_P_middleOfThree : MethodName := ⟨"OrderBench$Parting", "middleOfThree", "(LOrderBench$Row;LOrderBench$Judge;III)I"⟩
abbrev mb_P_part : ByteArray := prog_7_method_4_code
def mn_P_part : MethodName := ⟨"OrderBench$Parting", "part", "(LOrderBench$Row;LOrderBench$Judge;II)I"⟩
abbrev mb_In_arrangeOverGaps : ByteArray := prog_4_method_3_code
def mn_In_arrangeOverGaps : MethodName := ⟨"OrderBench$Insertion", "arrangeOverGaps", "(LOrderBench$Row;LOrderBench$Judge;)V"⟩
abbrev mb_In_insertOverGap : ByteArray := prog_4_method_4_code
def mn_In_insertOverGap : MethodName := ⟨"OrderBench$Insertion", "insertOverGap", "(LOrderBench$Row;LOrderBench$Judge;II)V"⟩
abbrev mb_Me_arrange : ByteArray := prog_6_method_2_code
def mn_Me_arrange : MethodName := ⟨"OrderBench$Merging", "arrange", "(LOrderBench$Row;LOrderBench$Row;LOrderBench$Judge;)I"⟩
abbrev mb_jM_min : ByteArray := prog_18_method_69_code
def mn_jM_min : MethodName := ⟨"java/lang/Math", "min", "(II)I"⟩
abbrev mb_Me_join : ByteArray := prog_6_method_3_code
def mn_Me_join : MethodName := ⟨"OrderBench$Merging", "join", "(LOrderBench$Row;IIILOrderBench$Row;LOrderBench$Judge;)I"⟩
abbrev mb_Pi_arrange : ByteArray := prog_8_method_2_code
def mn_Pi_arrange : MethodName := ⟨"OrderBench$Pile", "arrange", "(LOrderBench$Row;)V"⟩
abbrev mb_Pi_leastRun : ByteArray := prog_8_method_3_code
def mn_Pi_leastRun : MethodName := ⟨"OrderBench$Pile", "leastRun", "(I)I"⟩
abbrev mb_Pi_makeRun : ByteArray := prog_8_method_4_code
def mn_Pi_makeRun : MethodName := ⟨"OrderBench$Pile", "makeRun", "(LOrderBench$Row;II)I"⟩
abbrev mb_J_falls : ByteArray := prog_5_method_6_code
def mn_J_falls : MethodName := ⟨"OrderBench$Judge", "falls", "(LOrderBench$Row;I)Z"⟩
abbrev mb_J_drops : ByteArray := prog_5_method_5_code
def mn_J_drops : MethodName := ⟨"OrderBench$Judge", "drops", "(LOrderBench$Row;I)Z"⟩
abbrev mb_J_runEnd : ByteArray := prog_5_method_7_code
def mn_J_runEnd : MethodName := ⟨"OrderBench$Judge", "runEnd", "(LOrderBench$Row;IZ)I"⟩
abbrev mb_R_turnRound : ByteArray := prog_9_method_7_code
def mn_R_turnRound : MethodName := ⟨"OrderBench$Row", "turnRound", "(II)V"⟩
abbrev mb_jM_max : ByteArray := prog_18_method_65_code
def mn_jM_max : MethodName := ⟨"java/lang/Math", "max", "(II)I"⟩
abbrev mb_Pi_unevenRun : ByteArray := prog_8_method_6_code
def mn_Pi_unevenRun : MethodName := ⟨"OrderBench$Pile", "unevenRun", "()I"⟩
abbrev mb_Pi_lengthOf : ByteArray := prog_8_method_5_code
def mn_Pi_lengthOf : MethodName := ⟨"OrderBench$Pile", "lengthOf", "(I)I"⟩
abbrev mb_Pi_shorterOfLast : ByteArray := prog_8_method_7_code
def mn_Pi_shorterOfLast : MethodName := ⟨"OrderBench$Pile", "shorterOfLast", "()I"⟩
abbrev mb_Pi_joinWithNext : ByteArray := prog_8_method_8_code
def mn_Pi_joinWithNext : MethodName := ⟨"OrderBench$Pile", "joinWithNext", "(LOrderBench$Row;I)V"⟩
abbrev mb_J_placeByLeaps : ByteArray := prog_5_method_9_code
def mn_J_placeByLeaps : MethodName := ⟨"OrderBench$Judge", "placeByLeaps", "(LOrderBench$Row;IIJIZ)I"⟩
abbrev mb_Pi_joinFromSpare : ByteArray := prog_8_method_9_code
def mn_Pi_joinFromSpare : MethodName := ⟨"OrderBench$Pile", "joinFromSpare", "(LOrderBench$Row;III)V"⟩
abbrev mb_C_arrange : ByteArray := prog_2_method_3_code
def mn_C_arrange : MethodName := ⟨"OrderBench$Counting", "arrange", "(LOrderBench$Row;LOrderBench$Row;[II)V"⟩
abbrev mb_C_turnedBits : ByteArray := prog_2_method_4_code
def mn_C_turnedBits : MethodName := ⟨"OrderBench$Counting", "turnedBits", "(I)J"⟩
abbrev mb_C_arrangeByByte : ByteArray := prog_2_method_5_code
def mn_C_arrangeByByte : MethodName := ⟨"OrderBench$Counting", "arrangeByByte", "(LOrderBench$Row;LOrderBench$Row;[IJI)V"⟩
abbrev mb_jA_fill : ByteArray := prog_23_method_103_code
def mn_jA_fill : MethodName := ⟨"java/util/Arrays", "fill", "([II)V"⟩
abbrev mb_C_byteOf : ByteArray := prog_2_method_6_code
def mn_C_byteOf : MethodName := ⟨"OrderBench$Counting", "byteOf", "(JI)I"⟩
abbrev mb_B_mostComparisons : ByteArray := prog_1_method_35_code
def mn_B_mostComparisons : MethodName := ⟨"OrderBench", "mostComparisons", "(II)I"⟩
abbrev mb_L_sorted : ByteArray := method_13_code
def mn_L_sorted : MethodName := ⟨"OrderBenchLaw", "sorted", "(LOrderBench;II[J)I"⟩
abbrev mb_B_sorted : ByteArray := prog_1_method_13_code
def mn_B_sorted : MethodName := ⟨"OrderBench", "sorted", "(II)Z"⟩
abbrev mb_B_judgeBy : ByteArray := prog_1_method_27_code
def mn_B_judgeBy : MethodName := ⟨"OrderBench", "judgeBy", "(I)V"⟩
abbrev mb_B_isInOrder : ByteArray := prog_1_method_29_code
def mn_B_isInOrder : MethodName := ⟨"OrderBench", "isInOrder", "(LOrderBench$Row;)Z"⟩
abbrev mb_L_runs : ByteArray := method_14_code
def mn_L_runs : MethodName := ⟨"OrderBenchLaw", "runs", "(LOrderBench;II[J)I"⟩
abbrev mb_B_runs : ByteArray := prog_1_method_14_code
def mn_B_runs : MethodName := ⟨"OrderBench", "runs", "(II)I"⟩
abbrev mb_L_inversions : ByteArray := method_15_code
def mn_L_inversions : MethodName := ⟨"OrderBenchLaw", "inversions", "(LOrderBench;II[J)I"⟩
abbrev mb_B_inversions : ByteArray := prog_1_method_15_code
def mn_B_inversions : MethodName := ⟨"OrderBench", "inversions", "(II)I"⟩
abbrev mb_L_ranked : ByteArray := method_16_code
def mn_L_ranked : MethodName := ⟨"OrderBenchLaw", "ranked", "(LOrderBench;III[J)I"⟩
abbrev mb_B_ranked : ByteArray := prog_1_method_16_code
def mn_B_ranked : MethodName := ⟨"OrderBench", "ranked", "(III)I"⟩
abbrev mb_L_climb : ByteArray := method_17_code
def mn_L_climb : MethodName := ⟨"OrderBenchLaw", "climb", "(LOrderBench;II[J)I"⟩
abbrev mb_B_climb : ByteArray := prog_1_method_17_code
def mn_B_climb : MethodName := ⟨"OrderBench", "climb", "(II)I"⟩
abbrev mb_L_find : ByteArray := method_18_code
def mn_L_find : MethodName := ⟨"OrderBenchLaw", "find", "(LOrderBench;IIJZ[J)I"⟩
abbrev mb_B_find : ByteArray := prog_1_method_18_code
def mn_B_find : MethodName := ⟨"OrderBench", "find", "(IIJZ)I"⟩
abbrev mb_B_checkInOrder : ByteArray := prog_1_method_28_code
def mn_B_checkInOrder : MethodName := ⟨"OrderBench", "checkInOrder", "(LOrderBench$Row;)V"⟩
abbrev mb_L_merge : ByteArray := method_19_code
def mn_L_merge : MethodName := ⟨"OrderBenchLaw", "merge", "(LOrderBench;IIII[J)I"⟩
abbrev mb_B_merge : ByteArray := prog_1_method_19_code
def mn_B_merge : MethodName := ⟨"OrderBench", "merge", "(IIII)I"⟩
abbrev mb_L_single : ByteArray := method_20_code
def mn_L_single : MethodName := ⟨"OrderBenchLaw", "single", "(LOrderBench;II[J)I"⟩
abbrev mb_B_single : ByteArray := prog_1_method_20_code
def mn_B_single : MethodName := ⟨"OrderBench", "single", "(II)I"⟩
abbrev mb_L_front : ByteArray := method_21_code
def mn_L_front : MethodName := ⟨"OrderBenchLaw", "front", "(LOrderBench;III)I"⟩
abbrev mb_B_front : ByteArray := prog_1_method_21_code
def mn_B_front : MethodName := ⟨"OrderBench", "front", "(III)V"⟩
abbrev mb_B_bringToFront : ByteArray := prog_1_method_33_code
def mn_B_bringToFront : MethodName := ⟨"OrderBench", "bringToFront", "(LOrderBench$Row;I)V"⟩
abbrev mb_L_mark : ByteArray := method_22_code
def mn_L_mark : MethodName := ⟨"OrderBenchLaw", "mark", "(LOrderBench;I[J)I"⟩
abbrev mb_B_mark : ByteArray := prog_1_method_22_code
def mn_B_mark : MethodName := ⟨"OrderBench", "mark", "(I)J"⟩
abbrev mb_M_init : ByteArray := prog_11_method_1_code
def mn_M_init : MethodName := ⟨"OrderBenchModel", "<init>", "()V"⟩
abbrev mb_M_thrown : ByteArray := prog_11_method_2_code
def mn_M_thrown : MethodName := ⟨"OrderBenchModel", "thrown", "()I"⟩
abbrev mb_M_add : ByteArray := prog_11_method_11_code
def mn_M_add : MethodName := ⟨"OrderBenchModel", "add", "(IJI)I"⟩
abbrev mb_M_noRow : ByteArray := prog_11_method_9_code
def mn_M_noRow : MethodName := ⟨"OrderBenchModel", "noRow", "(I)Z"⟩
abbrev mb_M_fill : ByteArray := prog_11_method_13_code
def mn_M_fill : MethodName := ⟨"OrderBenchModel", "fill", "(IIIJI)V"⟩
abbrev mb_M_filled : ByteArray := prog_11_method_12_code
def mn_M_filled : MethodName := ⟨"OrderBenchModel", "filled", "(IIJII)J"⟩
abbrev mb_M_cut : ByteArray := prog_11_method_14_code
def mn_M_cut : MethodName := ⟨"OrderBenchModel", "cut", "(II)V"⟩
abbrev mb_M_swap : ByteArray := prog_11_method_16_code
def mn_M_swap : MethodName := ⟨"OrderBenchModel", "swap", "(III)V"⟩
abbrev mb_M_noEntry : ByteArray := prog_11_method_15_code
def mn_M_noEntry : MethodName := ⟨"OrderBenchModel", "noEntry", "(II)Z"⟩
abbrev mb_M_number : ByteArray := prog_11_method_17_code
def mn_M_number : MethodName := ⟨"OrderBenchModel", "number", "(I)V"⟩
abbrev mb_M_copy : ByteArray := prog_11_method_18_code
def mn_M_copy : MethodName := ⟨"OrderBenchModel", "copy", "(II)V"⟩
abbrev mb_M_size : ByteArray := prog_11_method_19_code
def mn_M_size : MethodName := ⟨"OrderBenchModel", "size", "(I)I"⟩
abbrev mb_M_key : ByteArray := prog_11_method_20_code
def mn_M_key : MethodName := ⟨"OrderBenchModel", "key", "(II)J"⟩
abbrev mb_M_tag : ByteArray := prog_11_method_21_code
def mn_M_tag : MethodName := ⟨"OrderBenchModel", "tag", "(II)I"⟩
abbrev mb_M_sort : ByteArray := prog_11_method_27_code
def mn_M_sort : MethodName := ⟨"OrderBenchModel", "sort", "(III)V"⟩
abbrev mb_M_noOrder : ByteArray := prog_11_method_10_code
def mn_M_noOrder : MethodName := ⟨"OrderBenchModel", "noOrder", "(I)Z"⟩
abbrev mb_M_begin : ByteArray := prog_11_method_22_code
def mn_M_begin : MethodName := ⟨"OrderBenchModel", "begin", "()V"⟩
abbrev mb_M_placeAll : ByteArray := prog_11_method_25_code
def mn_M_placeAll : MethodName := ⟨"OrderBenchModel", "placeAll", "(IIZ)V"⟩
abbrev mb_M_place : ByteArray := prog_11_method_24_code
def mn_M_place : MethodName := ⟨"OrderBenchModel", "place", "(IZJI)V"⟩
abbrev mb_M_belongsBefore : ByteArray := prog_11_method_23_code
def mn_M_belongsBefore : MethodName := ⟨"OrderBenchModel", "belongsBefore", "(IZJII)Z"⟩
abbrev mb_M_isBefore : ByteArray := prog_11_method_6_code
def mn_M_isBefore : MethodName := ⟨"OrderBenchModel", "isBefore", "(IJJ)Z"⟩
abbrev mb_M_isLess : ByteArray := prog_11_method_4_code
def mn_M_isLess : MethodName := ⟨"OrderBenchModel", "isLess", "(JJ)Z"⟩
abbrev mb_M_ones : ByteArray := prog_11_method_3_code
def mn_M_ones : MethodName := ⟨"OrderBenchModel", "ones", "(J)I"⟩
abbrev mb_M_sizeOf : ByteArray := prog_11_method_5_code
def mn_M_sizeOf : MethodName := ⟨"OrderBenchModel", "sizeOf", "(J)J"⟩
abbrev mb_M_isFirstByBits : ByteArray := prog_11_method_7_code
def mn_M_isFirstByBits : MethodName := ⟨"OrderBenchModel", "isFirstByBits", "(JJ)Z"⟩
abbrev mb_M_give : ByteArray := prog_11_method_26_code
def mn_M_give : MethodName := ⟨"OrderBenchModel", "give", "(I)V"⟩
abbrev mb_M_within : ByteArray := prog_11_method_28_code
def mn_M_within : MethodName := ⟨"OrderBenchModel", "within", "()Z"⟩
abbrev mb_M_sorted : ByteArray := prog_11_method_30_code
def mn_M_sorted : MethodName := ⟨"OrderBenchModel", "sorted", "(II)Z"⟩
abbrev mb_M_inOrder : ByteArray := prog_11_method_29_code
def mn_M_inOrder : MethodName := ⟨"OrderBenchModel", "inOrder", "(II)Z"⟩
abbrev mb_M_runs : ByteArray := prog_11_method_32_code
def mn_M_runs : MethodName := ⟨"OrderBenchModel", "runs", "(II)I"⟩
abbrev mb_M_falls : ByteArray := prog_11_method_31_code
def mn_M_falls : MethodName := ⟨"OrderBenchModel", "falls", "(III)Z"⟩
abbrev mb_M_inversions : ByteArray := prog_11_method_33_code
def mn_M_inversions : MethodName := ⟨"OrderBenchModel", "inversions", "(II)I"⟩
abbrev mb_M_ranked : ByteArray := prog_11_method_34_code
def mn_M_ranked : MethodName := ⟨"OrderBenchModel", "ranked", "(III)I"⟩
abbrev mb_M_climb : ByteArray := prog_11_method_35_code
def mn_M_climb : MethodName := ⟨"OrderBenchModel", "climb", "(II)I"⟩
abbrev mb_M_find : ByteArray := prog_11_method_36_code
def mn_M_find : MethodName := ⟨"OrderBenchModel", "find", "(IIJZ)I"⟩
abbrev mb_M_areAlike : ByteArray := prog_11_method_8_code
def mn_M_areAlike : MethodName := ⟨"OrderBenchModel", "areAlike", "(IJJ)Z"⟩
abbrev mb_M_merge : ByteArray := prog_11_method_37_code
def mn_M_merge : MethodName := ⟨"OrderBenchModel", "merge", "(IIII)I"⟩
abbrev mb_M_single : ByteArray := prog_11_method_38_code
def mn_M_single : MethodName := ⟨"OrderBenchModel", "single", "(II)I"⟩
abbrev mb_M_front : ByteArray := prog_11_method_40_code
def mn_M_front : MethodName := ⟨"OrderBenchModel", "front", "(III)V"⟩
abbrev mb_M_rankOf : ByteArray := prog_11_method_39_code
def mn_M_rankOf : MethodName := ⟨"OrderBenchModel", "rankOf", "(III)I"⟩
abbrev mb_M_mark : ByteArray := prog_11_method_41_code
def mn_M_mark : MethodName := ⟨"OrderBenchModel", "mark", "(I)J"⟩
def fT_B : u_T := fun k => match k with
  | 0 => ("OrderBench", "rows", "[LOrderBench$Row;", true)
  | 1 => ("OrderBench", "desk", "LOrderBench$Row;", true)
  | 2 => ("OrderBench", "spare", "LOrderBench$Row;", true)
  | 3 => ("OrderBench", "judge", "LOrderBench$Judge;", true)
  | 4 => ("OrderBench", "pile", "LOrderBench$Pile;", true)
  | 5 => ("OrderBench", "counts", "[I", true)
  | _ => ("OrderBench", "keptLimit", "Z", false)
def fY_B : Nat → FieldType := fun k => match k with
  | 0 => (.array (.object "OrderBench$Row"))
  | 1 => (.object "OrderBench$Row")
  | 2 => (.object "OrderBench$Row")
  | 3 => (.object "OrderBench$Judge")
  | 4 => (.object "OrderBench$Pile")
  | 5 => (.array .int)
  | _ => .boolean
theorem fN_B : ∀ a, a < 7 → ∀ b, b < 7 → a ≠ b → (fT_B a).2.1 ≠ (fT_B b).2.1 := by decide +kernel
theorem fO_B : ∀ k, k < 7 → parseFieldDescriptor (fT_B k).2.2.1 = some (fY_B k) := by decide +kernel
theorem fW_B_0 : u_lay "OrderBench" fT_B 0 ∈ yL := yL_in 109 (by decide +kernel) (by decide +kernel)
theorem fW_B_1 : u_lay "OrderBench" fT_B 1 ∈ yL := yL_in 111 (by decide +kernel) (by decide +kernel)
theorem fW_B_2 : u_lay "OrderBench" fT_B 2 ∈ yL := yL_in 113 (by decide +kernel) (by decide +kernel)
theorem fW_B_3 : u_lay "OrderBench" fT_B 3 ∈ yL := yL_in 115 (by decide +kernel) (by decide +kernel)
theorem fW_B_4 : u_lay "OrderBench" fT_B 4 ∈ yL := yL_in 117 (by decide +kernel) (by decide +kernel)
theorem fW_B_5 : u_lay "OrderBench" fT_B 5 ∈ yL := yL_in 119 (by decide +kernel) (by decide +kernel)
theorem fW_B_6 : u_lay "OrderBench" fT_B 6 ∈ yL := yL_in 121 (by decide +kernel) (by decide +kernel)
theorem fW_B : ∀ w ∈ u_ws "OrderBench" fT_B 7, w ∈ yL := by
  intro w hw
  obtain ⟨k, hk, rfl⟩ := List.mem_map.mp hw
  rw [List.mem_range] at hk
  have h : k = 0 ∨ k = 1 ∨ k = 2 ∨ k = 3 ∨ k = 4 ∨ k = 5 ∨ k = 6 := by omega
  rcases h with rfl | rfl | rfl | rfl | rfl | rfl | rfl
  · exact fW_B_0
  · exact fW_B_1
  · exact fW_B_2
  · exact fW_B_3
  · exact fW_B_4
  · exact fW_B_5
  · exact fW_B_6
def fT_R : u_T := fun k => match k with
  | 0 => ("OrderBench$Row", "keys", "[J", true)
  | 1 => ("OrderBench$Row", "tags", "[I", true)
  | _ => ("OrderBench$Row", "count", "I", false)
def fY_R : Nat → FieldType := fun k => match k with
  | 0 => (.array .long)
  | 1 => (.array .int)
  | _ => .int
theorem fN_R : ∀ a, a < 3 → ∀ b, b < 3 → a ≠ b → (fT_R a).2.1 ≠ (fT_R b).2.1 := by decide +kernel
theorem fO_R : ∀ k, k < 3 → parseFieldDescriptor (fT_R k).2.2.1 = some (fY_R k) := by decide +kernel
theorem fW_R_0 : u_lay "OrderBench$Row" fT_R 0 ∈ yL := yL_in 57 (by decide +kernel) (by decide +kernel)
theorem fW_R_1 : u_lay "OrderBench$Row" fT_R 1 ∈ yL := yL_in 59 (by decide +kernel) (by decide +kernel)
theorem fW_R_2 : u_lay "OrderBench$Row" fT_R 2 ∈ yL := yL_in 61 (by decide +kernel) (by decide +kernel)
theorem fW_R : ∀ w ∈ u_ws "OrderBench$Row" fT_R 3, w ∈ yL := by
  intro w hw
  obtain ⟨k, hk, rfl⟩ := List.mem_map.mp hw
  rw [List.mem_range] at hk
  have h : k = 0 ∨ k = 1 ∨ k = 2 := by omega
  rcases h with rfl | rfl | rfl
  · exact fW_R_0
  · exact fW_R_1
  · exact fW_R_2
def fT_J : u_T := fun k => match k with
  | 0 => ("OrderBench$Judge", "order", "I", false)
  | 1 => ("OrderBench$Judge", "byTags", "Z", false)
  | _ => ("OrderBench$Judge", "compared", "I", false)
def fY_J : Nat → FieldType := fun k => match k with
  | 0 => .int
  | 1 => .boolean
  | _ => .int
theorem fN_J : ∀ a, a < 3 → ∀ b, b < 3 → a ≠ b → (fT_J a).2.1 ≠ (fT_J b).2.1 := by decide +kernel
theorem fO_J : ∀ k, k < 3 → parseFieldDescriptor (fT_J k).2.2.1 = some (fY_J k) := by decide +kernel
theorem fW_J_0 : u_lay "OrderBench$Judge" fT_J 0 ∈ yL := yL_in 76 (by decide +kernel) (by decide +kernel)
theorem fW_J_1 : u_lay "OrderBench$Judge" fT_J 1 ∈ yL := yL_in 78 (by decide +kernel) (by decide +kernel)
theorem fW_J_2 : u_lay "OrderBench$Judge" fT_J 2 ∈ yL := yL_in 80 (by decide +kernel) (by decide +kernel)
theorem fW_J : ∀ w ∈ u_ws "OrderBench$Judge" fT_J 3, w ∈ yL := by
  intro w hw
  obtain ⟨k, hk, rfl⟩ := List.mem_map.mp hw
  rw [List.mem_range] at hk
  have h : k = 0 ∨ k = 1 ∨ k = 2 := by omega
  rcases h with rfl | rfl | rfl
  · exact fW_J_0
  · exact fW_J_1
  · exact fW_J_2
def fT_P : u_T := fun k => match k with
  | 0 => ("OrderBench$Pile", "spare", "LOrderBench$Row;", true)
  | 1 => ("OrderBench$Pile", "judge", "LOrderBench$Judge;", true)
  | 2 => ("OrderBench$Pile", "borders", "[I", true)
  | _ => ("OrderBench$Pile", "height", "I", false)
def fY_P : Nat → FieldType := fun k => match k with
  | 0 => (.object "OrderBench$Row")
  | 1 => (.object "OrderBench$Judge")
  | 2 => (.array .int)
  | _ => .int
theorem fN_P : ∀ a, a < 4 → ∀ b, b < 4 → a ≠ b → (fT_P a).2.1 ≠ (fT_P b).2.1 := by decide +kernel
theorem fO_P : ∀ k, k < 4 → parseFieldDescriptor (fT_P k).2.2.1 = some (fY_P k) := by decide +kernel
theorem fW_P_0 : u_lay "OrderBench$Pile" fT_P 0 ∈ yL := yL_in 93 (by decide +kernel) (by decide +kernel)
theorem fW_P_1 : u_lay "OrderBench$Pile" fT_P 1 ∈ yL := yL_in 95 (by decide +kernel) (by decide +kernel)
theorem fW_P_2 : u_lay "OrderBench$Pile" fT_P 2 ∈ yL := yL_in 97 (by decide +kernel) (by decide +kernel)
theorem fW_P_3 : u_lay "OrderBench$Pile" fT_P 3 ∈ yL := yL_in 99 (by decide +kernel) (by decide +kernel)
theorem fW_P : ∀ w ∈ u_ws "OrderBench$Pile" fT_P 4, w ∈ yL := by
  intro w hw
  obtain ⟨k, hk, rfl⟩ := List.mem_map.mp hw
  rw [List.mem_range] at hk
  have h : k = 0 ∨ k = 1 ∨ k = 2 ∨ k = 3 := by omega
  rcases h with rfl | rfl | rfl | rfl
  · exact fW_P_0
  · exact fW_P_1
  · exact fW_P_2
  · exact fW_P_3
def fT_M : u_T := fun k => match k with
  | 0 => ("OrderBenchModel", "code", "I", false)
  | 1 => ("OrderBenchModel", "keys", "[J", true)
  | 2 => ("OrderBenchModel", "tags", "[I", true)
  | 3 => ("OrderBenchModel", "sizes", "[I", true)
  | 4 => ("OrderBenchModel", "workKeys", "[J", true)
  | 5 => ("OrderBenchModel", "workTags", "[I", true)
  | 6 => ("OrderBenchModel", "workSize", "I", false)
  | _ => ("OrderBenchModel", "longest", "[I", true)
def fY_M : Nat → FieldType := fun k => match k with
  | 0 => .int
  | 1 => (.array .long)
  | 2 => (.array .int)
  | 3 => (.array .int)
  | 4 => (.array .long)
  | 5 => (.array .int)
  | 6 => .int
  | _ => (.array .int)
theorem fN_M : ∀ a, a < 8 → ∀ b, b < 8 → a ≠ b → (fT_M a).2.1 ≠ (fT_M b).2.1 := by decide +kernel
theorem fO_M : ∀ k, k < 8 → parseFieldDescriptor (fT_M k).2.2.1 = some (fY_M k) := by decide +kernel
theorem fW_M_0 : u_lay "OrderBenchModel" fT_M 0 ∈ yL := yL_in 647 (by decide +kernel) (by decide +kernel)
theorem fW_M_1 : u_lay "OrderBenchModel" fT_M 1 ∈ yL := yL_in 649 (by decide +kernel) (by decide +kernel)
theorem fW_M_2 : u_lay "OrderBenchModel" fT_M 2 ∈ yL := yL_in 651 (by decide +kernel) (by decide +kernel)
theorem fW_M_3 : u_lay "OrderBenchModel" fT_M 3 ∈ yL := yL_in 653 (by decide +kernel) (by decide +kernel)
theorem fW_M_4 : u_lay "OrderBenchModel" fT_M 4 ∈ yL := yL_in 655 (by decide +kernel) (by decide +kernel)
theorem fW_M_5 : u_lay "OrderBenchModel" fT_M 5 ∈ yL := yL_in 657 (by decide +kernel) (by decide +kernel)
theorem fW_M_6 : u_lay "OrderBenchModel" fT_M 6 ∈ yL := yL_in 659 (by decide +kernel) (by decide +kernel)
theorem fW_M_7 : u_lay "OrderBenchModel" fT_M 7 ∈ yL := yL_in 661 (by decide +kernel) (by decide +kernel)
theorem fW_M : ∀ w ∈ u_ws "OrderBenchModel" fT_M 8, w ∈ yL := by
  intro w hw
  obtain ⟨k, hk, rfl⟩ := List.mem_map.mp hw
  rw [List.mem_range] at hk
  have h : k = 0 ∨ k = 1 ∨ k = 2 ∨ k = 3 ∨ k = 4 ∨ k = 5 ∨ k = 6 ∨ k = 7 := by omega
  rcases h with rfl | rfl | rfl | rfl | rfl | rfl | rfl | rfl
  · exact fW_M_0
  · exact fW_M_1
  · exact fW_M_2
  · exact fW_M_3
  · exact fW_M_4
  · exact fW_M_5
  · exact fW_M_6
  · exact fW_M_7
/-- the classes of the world: an object names its class by its place here -/
def ycl : List vw_C := [("OrderBench", fT_B, 7), ("OrderBench$Row", fT_R, 3), ("OrderBench$Judge", fT_J, 3), ("OrderBench$Pile", fT_P, 4), ("OrderBenchModel", fT_M, 8)]
