abbrev mC_init : zk_M := (⟨"CopyInserts", "<init>", "()V"⟩, prog_1_method_1_code, 1, none)
abbrev mR_init : zk_M := (⟨"CopyInserts$Row", "<init>", "(I)V"⟩, prog_4_method_1_code, 2, none)
abbrev mN_init : zk_M := (⟨"CopyInserts$Numbers", "<init>", "()V"⟩, prog_3_method_1_code, 1, none)
abbrev mN_setFirstOnes : zk_M := (⟨"CopyInserts$Numbers", "setFirstOnes", "()V"⟩, prog_3_method_2_code, 1, none)
abbrev mN_set : zk_M := (⟨"CopyInserts$Numbers", "set", "(IIIII)V"⟩, prog_3_method_3_code, 6, none)
abbrev mA_init : zk_M := (⟨"CopyInserts$Acts", "<init>", "()V"⟩, prog_2_method_1_code, 1, none)
abbrev mS_init : zk_M := (⟨"CopyInserts$Search", "<init>", "(LCopyInserts$Row;LCopyInserts$Row;LCopyInserts$Numbers;)V"⟩, prog_5_method_1_code, 4, none)
abbrev mC_clear : zk_M := (⟨"CopyInserts", "clear", "()I"⟩, prog_1_method_2_code, 2, (some .int))
abbrev mR_length : zk_M := (⟨"CopyInserts$Row", "length", "()I"⟩, prog_4_method_2_code, 1, (some .int))
abbrev mR_dropAll : zk_M := (⟨"CopyInserts$Row", "dropAll", "()V"⟩, prog_4_method_9_code, 1, none)
abbrev mA_begin : zk_M := (⟨"CopyInserts$Acts", "begin", "(I)V"⟩, prog_2_method_2_code, 2, none)
abbrev mS_forget : zk_M := (⟨"CopyInserts$Search", "forget", "()V"⟩, prog_5_method_2_code, 1, none)
abbrev mC_put : zk_M := (⟨"CopyInserts", "put", "(II)I"⟩, prog_1_method_3_code, 4, (some .int))
abbrev mC_isText : zk_M := (⟨"CopyInserts", "isText", "(I)Z"⟩, prog_1_method_27_code, 1, (some .boolean))
abbrev mC_isByte : zk_M := (⟨"CopyInserts", "isByte", "(I)Z"⟩, prog_1_method_28_code, 1, (some .boolean))
abbrev mC_textOf : zk_M := (⟨"CopyInserts", "textOf", "(I)LCopyInserts$Row;"⟩, prog_1_method_30_code, 2, (some (.object "CopyInserts$Row")))
abbrev mR_isFull : zk_M := (⟨"CopyInserts$Row", "isFull", "()Z"⟩, prog_4_method_3_code, 1, (some .boolean))
abbrev mR_append : zk_M := (⟨"CopyInserts$Row", "append", "(I)V"⟩, prog_4_method_7_code, 2, none)
abbrev mC_cut : zk_M := (⟨"CopyInserts", "cut", "(II)I"⟩, prog_1_method_4_code, 4, (some .int))
abbrev mR_dropLast : zk_M := (⟨"CopyInserts$Row", "dropLast", "(I)V"⟩, prog_4_method_8_code, 2, none)
abbrev mC_turn : zk_M := (⟨"CopyInserts", "turn", "()I"⟩, prog_1_method_5_code, 1, (some .int))
abbrev mR_changeFor : zk_M := (⟨"CopyInserts$Row", "changeFor", "(LCopyInserts$Row;)V"⟩, prog_4_method_10_code, 4, none)
abbrev mC_costs : zk_M := (⟨"CopyInserts", "costs", "(IIIII)I"⟩, prog_1_method_6_code, 7, (some .int))
abbrev mC_isNumber : zk_M := (⟨"CopyInserts", "isNumber", "(I)Z"⟩, prog_1_method_29_code, 1, (some .boolean))
abbrev mN_countOthers : zk_M := (⟨"CopyInserts$Numbers", "countOthers", "(IIIII)I"⟩, prog_3_method_4_code, 6, (some .int))
abbrev mN_oneIfOther : zk_M := (⟨"CopyInserts$Numbers", "oneIfOther", "(II)I"⟩, prog_3_method_5_code, 2, (some .int))
abbrev mC_plan : zk_M := (⟨"CopyInserts", "plan", "()I"⟩, prog_1_method_7_code, 2, (some .int))
abbrev mR_sum : zk_M := (⟨"CopyInserts$Row", "sum", "()I"⟩, prog_4_method_11_code, 3, (some .int))
abbrev mS_begin : zk_M := (⟨"CopyInserts$Search", "begin", "()V"⟩, prog_5_method_9_code, 1, none)
abbrev mS_workOut : zk_M := (⟨"CopyInserts$Search", "workOut", "()V"⟩, prog_5_method_4_code, 3, none)
abbrev mS_workOutPlace : zk_M := (⟨"CopyInserts$Search", "workOutPlace", "(I)V"⟩, prog_5_method_5_code, 7, none)
abbrev mS_lengthenCopies : zk_M := (⟨"CopyInserts$Search", "lengthenCopies", "(I)I"⟩, prog_5_method_6_code, 5, (some .int))
abbrev mR_get : zk_M := (⟨"CopyInserts$Row", "get", "(I)I"⟩, prog_4_method_5_code, 2, (some .int))
abbrev mR_has : zk_M := (⟨"CopyInserts$Row", "has", "(I)Z"⟩, prog_4_method_4_code, 2, (some .boolean))
abbrev mS_leastFrom : zk_M := (⟨"CopyInserts$Search", "leastFrom", "(II)I"⟩, prog_5_method_3_code, 4, (some .int))
abbrev mS_longestAgain : zk_M := (⟨"CopyInserts$Search", "longestAgain", "(I)I"⟩, prog_5_method_7_code, 4, (some .int))
abbrev mR_countSame : zk_M := (⟨"CopyInserts$Row", "countSame", "(ILCopyInserts$Row;I)I"⟩, prog_4_method_12_code, 6, (some .int))
abbrev mS_leastBehindSelf : zk_M := (⟨"CopyInserts$Search", "leastBehindSelf", "(III)I"⟩, prog_5_method_8_code, 6, (some .int))
abbrev mS_findNext : zk_M := (⟨"CopyInserts$Search", "findNext", "()Z"⟩, prog_5_method_10_code, 1, (some .boolean))
abbrev mS_choose : zk_M := (⟨"CopyInserts$Search", "choose", "(II)V"⟩, prog_5_method_16_code, 4, none)
abbrev mS_chooseCopy : zk_M := (⟨"CopyInserts$Search", "chooseCopy", "(III)V"⟩, prog_5_method_17_code, 7, none)
abbrev mN_ofCopy : zk_M := (⟨"CopyInserts$Numbers", "ofCopy", "(II)I"⟩, prog_3_method_7_code, 3, (some .int))
abbrev mS_keep : zk_M := (⟨"CopyInserts$Search", "keep", "(III)V"⟩, prog_5_method_20_code, 4, none)
abbrev mS_chooseSelf : zk_M := (⟨"CopyInserts$Search", "chooseSelf", "(III)V"⟩, prog_5_method_18_code, 7, none)
abbrev mN_ofSelf : zk_M := (⟨"CopyInserts$Numbers", "ofSelf", "()I"⟩, prog_3_method_8_code, 1, (some .int))
abbrev mS_chooseLay : zk_M := (⟨"CopyInserts$Search", "chooseLay", "(III)V"⟩, prog_5_method_19_code, 5, none)
abbrev mN_ofLay : zk_M := (⟨"CopyInserts$Numbers", "ofLay", "(I)I"⟩, prog_3_method_9_code, 2, (some .int))
abbrev mC_takeFoundAct : zk_M := (⟨"CopyInserts", "takeFoundAct", "()V"⟩, prog_1_method_32_code, 2, none)
abbrev mS_foundKind : zk_M := (⟨"CopyInserts$Search", "foundKind", "()I"⟩, prog_5_method_11_code, 1, (some .int))
abbrev mS_foundPlace : zk_M := (⟨"CopyInserts$Search", "foundPlace", "()I"⟩, prog_5_method_12_code, 1, (some .int))
abbrev mS_foundCount : zk_M := (⟨"CopyInserts$Search", "foundCount", "()I"⟩, prog_5_method_13_code, 1, (some .int))
abbrev mA_append : zk_M := (⟨"CopyInserts$Acts", "append", "(III)V"⟩, prog_2_method_12_code, 4, none)
abbrev mA_isFull : zk_M := (⟨"CopyInserts$Acts", "isFull", "()Z"⟩, prog_2_method_5_code, 1, (some .boolean))
abbrev mA_openLay : zk_M := (⟨"CopyInserts$Acts", "openLay", "()V"⟩, prog_2_method_13_code, 1, none)
abbrev mS_foundAt : zk_M := (⟨"CopyInserts$Search", "foundAt", "()I"⟩, prog_5_method_14_code, 1, (some .int))
abbrev mA_layByte : zk_M := (⟨"CopyInserts$Acts", "layByte", "(I)V"⟩, prog_2_method_15_code, 2, none)
abbrev mA_takesByte : zk_M := (⟨"CopyInserts$Acts", "takesByte", "()Z"⟩, prog_2_method_14_code, 1, (some .boolean))
abbrev mA_kind : zk_M := (⟨"CopyInserts$Acts", "kind", "(I)I"⟩, prog_2_method_7_code, 2, (some .int))
abbrev mA_has : zk_M := (⟨"CopyInserts$Acts", "has", "(I)Z"⟩, prog_2_method_6_code, 2, (some .boolean))
abbrev mA_count : zk_M := (⟨"CopyInserts$Acts", "count", "(I)I"⟩, prog_2_method_8_code, 2, (some .int))
abbrev mA_length : zk_M := (⟨"CopyInserts$Acts", "length", "()I"⟩, prog_2_method_3_code, 1, (some .int))
abbrev mC_cost : zk_M := (⟨"CopyInserts", "cost", "()I"⟩, prog_1_method_8_code, 3, (some .int))
abbrev mC_costOf : zk_M := (⟨"CopyInserts", "costOf", "(I)I"⟩, prog_1_method_31_code, 2, (some .int))
abbrev mA_place : zk_M := (⟨"CopyInserts$Acts", "place", "(I)I"⟩, prog_2_method_9_code, 2, (some .int))
abbrev mA_spotAhead : zk_M := (⟨"CopyInserts$Acts", "spotAhead", "(I)I"⟩, prog_2_method_11_code, 3, (some .int))
abbrev mC_rest : zk_M := (⟨"CopyInserts", "rest", "(II)I"⟩, prog_1_method_9_code, 3, (some .int))
abbrev mC_match : zk_M := (⟨"CopyInserts", "match", "(III)I"⟩, prog_1_method_10_code, 4, (some .int))
abbrev mC_act : zk_M := (⟨"CopyInserts", "act", "(II)I"⟩, prog_1_method_11_code, 3, (some .int))
abbrev mC_laid : zk_M := (⟨"CopyInserts", "laid", "(II)I"⟩, prog_1_method_12_code, 3, (some .int))
abbrev mA_laidByte : zk_M := (⟨"CopyInserts$Acts", "laidByte", "(II)I"⟩, prog_2_method_10_code, 3, (some .int))
abbrev mC_empty : zk_M := (⟨"CopyInserts", "empty", "()I"⟩, prog_1_method_13_code, 2, (some .int))
abbrev mC_add : zk_M := (⟨"CopyInserts", "add", "(III)I"⟩, prog_1_method_14_code, 4, (some .int))
abbrev mC_lay : zk_M := (⟨"CopyInserts", "lay", "(I)I"⟩, prog_1_method_15_code, 2, (some .int))
abbrev mC_make : zk_M := (⟨"CopyInserts", "make", "()I"⟩, prog_1_method_16_code, 2, (some .int))
abbrev mA_sum : zk_M := (⟨"CopyInserts$Acts", "sum", "()I"⟩, prog_2_method_4_code, 1, (some .int))
abbrev mC_fails : zk_M := (⟨"CopyInserts", "fails", "(I)Z"⟩, prog_1_method_33_code, 3, (some .boolean))
abbrev mC_perform : zk_M := (⟨"CopyInserts", "perform", "(I)V"⟩, prog_1_method_34_code, 3, none)
abbrev mC_byteOf : zk_M := (⟨"CopyInserts", "byteOf", "(II)I"⟩, prog_1_method_35_code, 3, (some .int))
abbrev mC_made : zk_M := (⟨"CopyInserts", "made", "(I)I"⟩, prog_1_method_17_code, 2, (some .int))
abbrev mC_isNew : zk_M := (⟨"CopyInserts", "isNew", "()I"⟩, prog_1_method_18_code, 1, (some .int))
abbrev mR_isSame : zk_M := (⟨"CopyInserts$Row", "isSame", "(LCopyInserts$Row;)Z"⟩, prog_4_method_13_code, 2, (some .boolean))
abbrev mC_write : zk_M := (⟨"CopyInserts", "write", "()I"⟩, prog_1_method_19_code, 2, (some .int))
abbrev mC_writeAct : zk_M := (⟨"CopyInserts", "writeAct", "(I)V"⟩, prog_1_method_36_code, 3, none)
abbrev mC_code : zk_M := (⟨"CopyInserts", "code", "(I)I"⟩, prog_1_method_20_code, 2, (some .int))
abbrev mC_poke : zk_M := (⟨"CopyInserts", "poke", "(II)I"⟩, prog_1_method_21_code, 4, (some .int))
abbrev mR_set : zk_M := (⟨"CopyInserts$Row", "set", "(II)V"⟩, prog_4_method_6_code, 3, none)
abbrev mC_shorten : zk_M := (⟨"CopyInserts", "shorten", "(I)I"⟩, prog_1_method_22_code, 2, (some .int))
abbrev mC_read : zk_M := (⟨"CopyInserts", "read", "()I"⟩, prog_1_method_23_code, 4, (some .int))
abbrev mC_findWrongByte : zk_M := (⟨"CopyInserts", "findWrongByte", "()I"⟩, prog_1_method_37_code, 7, (some .int))
abbrev mC_readAct : zk_M := (⟨"CopyInserts", "readAct", "(I)I"⟩, prog_1_method_38_code, 5, (some .int))
abbrev mC_moved : zk_M := (⟨"CopyInserts", "moved", "(I)I"⟩, prog_1_method_24_code, 4, (some .int))
abbrev mS_wayOfFound : zk_M := (⟨"CopyInserts$Search", "wayOfFound", "()I"⟩, prog_5_method_15_code, 1, (some .int))
abbrev mI_compare : zk_M := (⟨"java/lang/Integer", "compare", "(II)I"⟩, prog_8_method_40_code, 2, (some .int))
abbrev mC_of : zk_M := (⟨"CopyInserts", "of", "(I)I"⟩, prog_1_method_25_code, 2, (some .int))
abbrev mN_get : zk_M := (⟨"CopyInserts$Numbers", "get", "(I)I"⟩, prog_3_method_6_code, 2, (some .int))
abbrev mC_at : zk_M := (⟨"CopyInserts", "at", "(II)I"⟩, prog_1_method_26_code, 3, (some .int))
abbrev mM_init : zk_M := (⟨"CopyInsertsModel", "<init>", "()V"⟩, prog_7_method_1_code, 1, none)
abbrev mM_begin : zk_M := (⟨"CopyInsertsModel", "begin", "()V"⟩, prog_7_method_2_code, 1, none)
abbrev mM_clear : zk_M := (⟨"CopyInsertsModel", "clear", "()I"⟩, prog_7_method_3_code, 2, (some .int))
abbrev mM_put : zk_M := (⟨"CopyInsertsModel", "put", "(II)I"⟩, prog_7_method_7_code, 3, (some .int))
abbrev mM_isIn : zk_M := (⟨"CopyInsertsModel", "isIn", "(III)Z"⟩, prog_7_method_4_code, 3, (some .boolean))
abbrev mM_cut : zk_M := (⟨"CopyInsertsModel", "cut", "(II)I"⟩, prog_7_method_8_code, 3, (some .int))
abbrev mM_turn : zk_M := (⟨"CopyInsertsModel", "turn", "()I"⟩, prog_7_method_9_code, 3, (some .int))
abbrev mM_costs : zk_M := (⟨"CopyInsertsModel", "costs", "(IIIII)I"⟩, prog_7_method_10_code, 7, (some .int))
abbrev mM_plan : zk_M := (⟨"CopyInsertsModel", "plan", "()I"⟩, prog_7_method_16_code, 4, (some .int))
abbrev mM_learn : zk_M := (⟨"CopyInsertsModel", "learn", "()V"⟩, prog_7_method_13_code, 6, none)
abbrev mM_like : zk_M := (⟨"CopyInsertsModel", "like", "(III)I"⟩, prog_7_method_12_code, 5, (some .int))
abbrev mM_byteOf : zk_M := (⟨"CopyInsertsModel", "byteOf", "(II)I"⟩, prog_7_method_5_code, 3, (some .int))
abbrev mM_costOf : zk_M := (⟨"CopyInsertsModel", "costOf", "(IIII)I"⟩, prog_7_method_11_code, 5, (some .int))
abbrev mM_better : zk_M := (⟨"CopyInsertsModel", "better", "(III)V"⟩, prog_7_method_14_code, 4, none)
abbrev mM_sumOf : zk_M := (⟨"CopyInsertsModel", "sumOf", "(I)I"⟩, prog_7_method_6_code, 4, (some .int))
abbrev mM_find : zk_M := (⟨"CopyInsertsModel", "find", "(II)V"⟩, prog_7_method_15_code, 10, none)
abbrev mM_cost : zk_M := (⟨"CopyInsertsModel", "cost", "()I"⟩, prog_7_method_19_code, 3, (some .int))
abbrev mM_costAt : zk_M := (⟨"CopyInsertsModel", "costAt", "(I)I"⟩, prog_7_method_18_code, 2, (some .int))
abbrev mM_spotOf : zk_M := (⟨"CopyInsertsModel", "spotOf", "(I)I"⟩, prog_7_method_17_code, 4, (some .int))
abbrev mM_rest : zk_M := (⟨"CopyInsertsModel", "rest", "(II)I"⟩, prog_7_method_20_code, 3, (some .int))
abbrev mM_match : zk_M := (⟨"CopyInsertsModel", "match", "(III)I"⟩, prog_7_method_21_code, 4, (some .int))
abbrev mM_act : zk_M := (⟨"CopyInsertsModel", "act", "(II)I"⟩, prog_7_method_22_code, 3, (some .int))
abbrev mM_laid : zk_M := (⟨"CopyInsertsModel", "laid", "(II)I"⟩, prog_7_method_23_code, 3, (some .int))
abbrev mM_empty : zk_M := (⟨"CopyInsertsModel", "empty", "()I"⟩, prog_7_method_24_code, 2, (some .int))
abbrev mM_add : zk_M := (⟨"CopyInsertsModel", "add", "(III)I"⟩, prog_7_method_25_code, 4, (some .int))
abbrev mM_lay : zk_M := (⟨"CopyInsertsModel", "lay", "(I)I"⟩, prog_7_method_26_code, 3, (some .int))
abbrev mM_make : zk_M := (⟨"CopyInsertsModel", "make", "()I"⟩, prog_7_method_27_code, 6, (some .int))
abbrev mM_made : zk_M := (⟨"CopyInsertsModel", "made", "(I)I"⟩, prog_7_method_28_code, 2, (some .int))
abbrev mM_isNew : zk_M := (⟨"CopyInsertsModel", "isNew", "()I"⟩, prog_7_method_29_code, 3, (some .int))
abbrev mM_write : zk_M := (⟨"CopyInsertsModel", "write", "()I"⟩, prog_7_method_31_code, 3, (some .int))
abbrev mM_code1 : zk_M := (⟨"CopyInsertsModel", "code1", "(I)V"⟩, prog_7_method_30_code, 2, none)
abbrev mM_code : zk_M := (⟨"CopyInsertsModel", "code", "(I)I"⟩, prog_7_method_32_code, 2, (some .int))
abbrev mM_poke : zk_M := (⟨"CopyInsertsModel", "poke", "(II)I"⟩, prog_7_method_33_code, 4, (some .int))
abbrev mM_shorten : zk_M := (⟨"CopyInsertsModel", "shorten", "(I)I"⟩, prog_7_method_34_code, 2, (some .int))
abbrev mM_read : zk_M := (⟨"CopyInsertsModel", "read", "()I"⟩, prog_7_method_36_code, 6, (some .int))
abbrev mM_faultOf : zk_M := (⟨"CopyInsertsModel", "faultOf", "()I"⟩, prog_7_method_35_code, 6, (some .int))
abbrev mM_moved : zk_M := (⟨"CopyInsertsModel", "moved", "(I)I"⟩, prog_7_method_37_code, 6, (some .int))
abbrev mM_of : zk_M := (⟨"CopyInsertsModel", "of", "(I)I"⟩, prog_7_method_38_code, 2, (some .int))
abbrev mM_at : zk_M := (⟨"CopyInsertsModel", "at", "(II)I"⟩, prog_7_method_39_code, 3, (some .int))
abbrev mL_law : zk_M := (⟨"CopyInsertsLaw", "law", "([I)Z"⟩, code, 4, (some .boolean))
theorem zoL_7 : zk_O "CopyInsertsLaw" 7 4 7 [.inr none, .inr none, .inr none, .inr none, .inr none, .inr none, .inr none] := by
  refine ⟨zR4, zT4, zY4, rfl, zi4, zy4, zk_mem 39 (by decide +kernel) rfl, zk_mem 40 (by decide +kernel) rfl, zk_mem 31 (by decide +kernel) rfl, fun G j hj => ?_⟩
  match j, hj with
  | 0, _ => rfl
  | 1, _ => rfl
  | 2, _ => rfl
  | 3, _ => rfl
  | 4, _ => rfl
  | 5, _ => rfl
  | 6, _ => rfl
  | k + 7, h => omega
set_option maxRecDepth 20000 in
theorem zbL_9 : zk_BI "CopyInsertsLaw" 9 mC_init 0 := ⟨⟨zk_mem 43 rfl rfl, zk_mem 31 (by decide +kernel) rfl, by decide +kernel, by decide +kernel, Or.inl (zk_mem 41 (by decide +kernel) rfl)⟩, zk_mem 42 (by decide +kernel) rfl, rfl, rfl⟩
theorem zoC_9 : zk_O "CopyInserts" 9 2 2 [.inr none, .inl 0] := by
  refine ⟨zR2, zT2, zY2, rfl, zi2, zy2, zk_mem 47 (by decide +kernel) rfl, zk_mem 48 (by decide +kernel) rfl, zk_mem 32 (by decide +kernel) rfl, fun G j hj => ?_⟩
  match j, hj with
  | 0, _ => rfl
  | 1, _ => rfl
  | k + 2, h => omega
set_option maxRecDepth 20000 in
theorem zbC_11 : zk_BI "CopyInserts" 11 mR_init 1 := ⟨⟨zk_mem 51 rfl rfl, zk_mem 32 (by decide +kernel) rfl, by decide +kernel, by decide +kernel, Or.inl (zk_mem 49 (by decide +kernel) rfl)⟩, zk_mem 50 (by decide +kernel) rfl, rfl, rfl⟩
theorem zfR_15 : zk_F "CopyInserts$Row" 15 2 0 (.array .int) false := ⟨zR2, zT2, 2, zY2, rfl, zi2, zy2, zn2, by decide, rfl, rfl, fun h => absurd h (by decide), Or.inl (zk_mem 56 (by decide +kernel) rfl)⟩
theorem zfR_21 : zk_F "CopyInserts$Row" 21 2 1 (.int) false := ⟨zR2, zT2, 2, zY2, rfl, zi2, zy2, zn2, by decide, rfl, rfl, fun h => absurd h (by decide), Or.inl (zk_mem 57 (by decide +kernel) rfl)⟩
theorem zoC_27 : zk_O "CopyInserts" 27 1 5 [.inl 0, .inl 0, .inl 0, .inl 0, .inl 0] := by
  refine ⟨zR1, zT1, zY1, rfl, zi1, zy1, zk_mem 64 (by decide +kernel) rfl, zk_mem 65 (by decide +kernel) rfl, zk_mem 34 (by decide +kernel) rfl, fun G j hj => ?_⟩
  match j, hj with
  | 0, _ => rfl
  | 1, _ => rfl
  | 2, _ => rfl
  | 3, _ => rfl
  | 4, _ => rfl
  | k + 5, h => omega
set_option maxRecDepth 20000 in
theorem zbC_29 : zk_BI "CopyInserts" 29 mN_init 0 := ⟨⟨zk_mem 68 rfl rfl, zk_mem 34 (by decide +kernel) rfl, by decide +kernel, by decide +kernel, Or.inl (zk_mem 66 (by decide +kernel) rfl)⟩, zk_mem 67 (by decide +kernel) rfl, rfl, rfl⟩
set_option maxRecDepth 20000 in
theorem zbN_9 : zk_BV "CopyInserts$Numbers" 9 1 mN_setFirstOnes 0 := ⟨⟨zk_mem 73 rfl rfl, zk_mem 34 (by decide +kernel) rfl, by decide +kernel, by decide +kernel, Or.inl (zk_mem 70 (by decide +kernel) rfl)⟩, zk_mem 71 (by decide +kernel) rfl, zk_mem 72 (by decide +kernel) rfl, zT1, 5, rfl⟩
set_option maxRecDepth 20000 in
theorem zbN_14 : zk_BV "CopyInserts$Numbers" 14 1 mN_set 5 := ⟨⟨zk_mem 77 rfl rfl, zk_mem 34 (by decide +kernel) rfl, by decide +kernel, by decide +kernel, Or.inl (zk_mem 74 (by decide +kernel) rfl)⟩, zk_mem 75 (by decide +kernel) rfl, zk_mem 76 (by decide +kernel) rfl, zT1, 5, rfl⟩
theorem zfN_18 : zk_F "CopyInserts$Numbers" 18 1 0 (.int) false := ⟨zR1, zT1, 5, zY1, rfl, zi1, zy1, zn1, by decide, rfl, rfl, fun h => absurd h (by decide), Or.inl (zk_mem 78 (by decide +kernel) rfl)⟩
theorem zfS_72 : zk_F "CopyInserts$Search" 72 1 0 (.int) false := ⟨zR1, zT1, 5, zY1, rfl, zi1, zy1, zn1, by decide, rfl, rfl, fun h => absurd h (by decide), Or.inr ⟨"CopyInserts", by decide +kernel⟩⟩
theorem zfN_22 : zk_F "CopyInserts$Numbers" 22 1 1 (.int) false := ⟨zR1, zT1, 5, zY1, rfl, zi1, zy1, zn1, by decide, rfl, rfl, fun h => absurd h (by decide), Or.inl (zk_mem 80 (by decide +kernel) rfl)⟩
theorem zfS_75 : zk_F "CopyInserts$Search" 75 1 1 (.int) false := ⟨zR1, zT1, 5, zY1, rfl, zi1, zy1, zn1, by decide, rfl, rfl, fun h => absurd h (by decide), Or.inr ⟨"CopyInserts", by decide +kernel⟩⟩
theorem zfN_25 : zk_F "CopyInserts$Numbers" 25 1 2 (.int) false := ⟨zR1, zT1, 5, zY1, rfl, zi1, zy1, zn1, by decide, rfl, rfl, fun h => absurd h (by decide), Or.inl (zk_mem 82 (by decide +kernel) rfl)⟩
theorem zfS_78 : zk_F "CopyInserts$Search" 78 1 2 (.int) false := ⟨zR1, zT1, 5, zY1, rfl, zi1, zy1, zn1, by decide, rfl, rfl, fun h => absurd h (by decide), Or.inr ⟨"CopyInserts", by decide +kernel⟩⟩
theorem zfN_28 : zk_F "CopyInserts$Numbers" 28 1 3 (.int) false := ⟨zR1, zT1, 5, zY1, rfl, zi1, zy1, zn1, by decide, rfl, rfl, fun h => absurd h (by decide), Or.inl (zk_mem 84 (by decide +kernel) rfl)⟩
theorem zfS_69 : zk_F "CopyInserts$Search" 69 1 3 (.int) false := ⟨zR1, zT1, 5, zY1, rfl, zi1, zy1, zn1, by decide, rfl, rfl, fun h => absurd h (by decide), Or.inr ⟨"CopyInserts", by decide +kernel⟩⟩
theorem zfN_31 : zk_F "CopyInserts$Numbers" 31 1 4 (.int) false := ⟨zR1, zT1, 5, zY1, rfl, zi1, zy1, zn1, by decide, rfl, rfl, fun h => absurd h (by decide), Or.inl (zk_mem 86 (by decide +kernel) rfl)⟩
theorem zfS_60 : zk_F "CopyInserts$Search" 60 1 4 (.int) false := ⟨zR1, zT1, 5, zY1, rfl, zi1, zy1, zn1, by decide, rfl, rfl, fun h => absurd h (by decide), Or.inr ⟨"CopyInserts", by decide +kernel⟩⟩
theorem zoC_34 : zk_O "CopyInserts" 34 0 7 [.inr none, .inr none, .inr none, .inr none, .inr none, .inl 0, .inl 0] := by
  refine ⟨zR0, zT0, zY0, rfl, zi0, zy0, zk_mem 99 (by decide +kernel) rfl, zk_mem 100 (by decide +kernel) rfl, zk_mem 35 (by decide +kernel) rfl, fun G j hj => ?_⟩
  match j, hj with
  | 0, _ => rfl
  | 1, _ => rfl
  | 2, _ => rfl
  | 3, _ => rfl
  | 4, _ => rfl
  | 5, _ => rfl
  | 6, _ => rfl
  | k + 7, h => omega
set_option maxRecDepth 20000 in
theorem zbC_36 : zk_BI "CopyInserts" 36 mA_init 0 := ⟨⟨zk_mem 103 rfl rfl, zk_mem 35 (by decide +kernel) rfl, by decide +kernel, by decide +kernel, Or.inr ⟨"CopyInserts", by decide +kernel⟩⟩, zk_mem 102 (by decide +kernel) rfl, rfl, rfl⟩
theorem zoA_24 : zk_O "CopyInserts$Acts" 24 2 2 [.inr none, .inl 0] := by
  refine ⟨zR2, zT2, zY2, rfl, zi2, zy2, zk_mem 105 (by decide +kernel) rfl, zk_mem 48 (by decide +kernel) rfl, zk_mem 32 (by decide +kernel) rfl, fun G j hj => ?_⟩
  match j, hj with
  | 0, _ => rfl
  | 1, _ => rfl
  | k + 2, h => omega
set_option maxRecDepth 20000 in
theorem zbA_26 : zk_BI "CopyInserts$Acts" 26 mR_init 1 := ⟨⟨zk_mem 51 rfl rfl, zk_mem 32 (by decide +kernel) rfl, by decide +kernel, by decide +kernel, Or.inl (zk_mem 106 (by decide +kernel) rfl)⟩, zk_mem 50 (by decide +kernel) rfl, rfl, rfl⟩
theorem zfA_9 : zk_F "CopyInserts$Acts" 9 0 0 (.array .int) true := ⟨zR0, zT0, 7, zY0, rfl, zi0, zy0, zn0, by decide, rfl, rfl, fun _ => rfl, Or.inl (zk_mem 107 (by decide +kernel) rfl)⟩
theorem zfA_15 : zk_F "CopyInserts$Acts" 15 0 1 (.array .int) true := ⟨zR0, zT0, 7, zY0, rfl, zi0, zy0, zn0, by decide, rfl, rfl, fun _ => rfl, Or.inl (zk_mem 108 (by decide +kernel) rfl)⟩
theorem zfA_18 : zk_F "CopyInserts$Acts" 18 0 2 (.array .int) true := ⟨zR0, zT0, 7, zY0, rfl, zi0, zy0, zn0, by decide, rfl, rfl, fun _ => rfl, Or.inl (zk_mem 109 (by decide +kernel) rfl)⟩
theorem zfA_21 : zk_F "CopyInserts$Acts" 21 0 3 (.array .int) true := ⟨zR0, zT0, 7, zY0, rfl, zi0, zy0, zn0, by decide, rfl, rfl, fun _ => rfl, Or.inl (zk_mem 110 (by decide +kernel) rfl)⟩
theorem zfA_29 : zk_F "CopyInserts$Acts" 29 0 4 (.object "CopyInserts$Row") true := ⟨zR0, zT0, 7, zY0, rfl, zi0, zy0, zn0, by decide, rfl, rfl, fun _ => rfl, Or.inl (zk_mem 111 (by decide +kernel) rfl)⟩
theorem zfA_37 : zk_F "CopyInserts$Acts" 37 0 5 (.int) false := ⟨zR0, zT0, 7, zY0, rfl, zi0, zy0, zn0, by decide, rfl, rfl, fun h => absurd h (by decide), Or.inl (zk_mem 112 (by decide +kernel) rfl)⟩
theorem zfA_33 : zk_F "CopyInserts$Acts" 33 0 6 (.int) false := ⟨zR0, zT0, 7, zY0, rfl, zi0, zy0, zn0, by decide, rfl, rfl, fun h => absurd h (by decide), Or.inl (zk_mem 113 (by decide +kernel) rfl)⟩
theorem zoC_41 : zk_O "CopyInserts" 41 3 13 [.inr none, .inr none, .inr none, .inr none, .inr none, .inr none, .inl 0, .inl 0, .inl 0, .inl 0, .inl 0, .inl 0, .inl 0] := by
  refine ⟨zR3, zT3, zY3, rfl, zi3, zy3, zk_mem 129 (by decide +kernel) rfl, zk_mem 130 (by decide +kernel) rfl, zk_mem 36 (by decide +kernel) rfl, fun G j hj => ?_⟩
  match j, hj with
  | 0, _ => rfl
  | 1, _ => rfl
  | 2, _ => rfl
  | 3, _ => rfl
  | 4, _ => rfl
  | 5, _ => rfl
  | 6, _ => rfl
  | 7, _ => rfl
  | 8, _ => rfl
  | 9, _ => rfl
  | 10, _ => rfl
  | 11, _ => rfl
  | 12, _ => rfl
  | k + 13, h => omega
set_option maxRecDepth 20000 in
theorem zbC_43 : zk_BI "CopyInserts" 43 mS_init 3 := ⟨⟨zk_mem 133 rfl rfl, zk_mem 36 (by decide +kernel) rfl, by decide +kernel, by decide +kernel, Or.inl (zk_mem 131 (by decide +kernel) rfl)⟩, zk_mem 132 (by decide +kernel) rfl, rfl, rfl⟩
theorem zfS_21 : zk_F "CopyInserts$Search" 21 3 0 (.object "CopyInserts$Row") true := ⟨zR3, zT3, 13, zY3, rfl, zi3, zy3, zn3, by decide, rfl, rfl, fun _ => rfl, Or.inl (zk_mem 135 (by decide +kernel) rfl)⟩
theorem zfS_25 : zk_F "CopyInserts$Search" 25 3 1 (.object "CopyInserts$Row") true := ⟨zR3, zT3, 13, zY3, rfl, zi3, zy3, zn3, by decide, rfl, rfl, fun _ => rfl, Or.inl (zk_mem 136 (by decide +kernel) rfl)⟩
theorem zfS_28 : zk_F "CopyInserts$Search" 28 3 2 (.object "CopyInserts$Numbers") true := ⟨zR3, zT3, 13, zY3, rfl, zi3, zy3, zn3, by decide, rfl, rfl, fun _ => rfl, Or.inl (zk_mem 137 (by decide +kernel) rfl)⟩
theorem zfS_11 : zk_F "CopyInserts$Search" 11 3 3 (.array .int) true := ⟨zR3, zT3, 13, zY3, rfl, zi3, zy3, zn3, by decide, rfl, rfl, fun _ => rfl, Or.inl (zk_mem 138 (by decide +kernel) rfl)⟩
theorem zfS_15 : zk_F "CopyInserts$Search" 15 3 4 (.array .int) true := ⟨zR3, zT3, 13, zY3, rfl, zi3, zy3, zn3, by decide, rfl, rfl, fun _ => rfl, Or.inl (zk_mem 139 (by decide +kernel) rfl)⟩
theorem zfS_18 : zk_F "CopyInserts$Search" 18 3 5 (.array .int) true := ⟨zR3, zT3, 13, zY3, rfl, zi3, zy3, zn3, by decide, rfl, rfl, fun _ => rfl, Or.inl (zk_mem 140 (by decide +kernel) rfl)⟩
theorem zfS_32 : zk_F "CopyInserts$Search" 32 3 6 (.boolean) false := ⟨zR3, zT3, 13, zY3, rfl, zi3, zy3, zn3, by decide, rfl, rfl, fun h => absurd h (by decide), Or.inl (zk_mem 141 (by decide +kernel) rfl)⟩
theorem zfS_98 : zk_F "CopyInserts$Search" 98 3 7 (.int) false := ⟨zR3, zT3, 13, zY3, rfl, zi3, zy3, zn3, by decide, rfl, rfl, fun h => absurd h (by decide), Or.inl (zk_mem 142 (by decide +kernel) rfl)⟩
theorem zfS_101 : zk_F "CopyInserts$Search" 101 3 8 (.int) false := ⟨zR3, zT3, 13, zY3, rfl, zi3, zy3, zn3, by decide, rfl, rfl, fun h => absurd h (by decide), Or.inl (zk_mem 143 (by decide +kernel) rfl)⟩
theorem zfS_114 : zk_F "CopyInserts$Search" 114 3 9 (.int) false := ⟨zR3, zT3, 13, zY3, rfl, zi3, zy3, zn3, by decide, rfl, rfl, fun h => absurd h (by decide), Or.inl (zk_mem 144 (by decide +kernel) rfl)⟩
theorem zfS_117 : zk_F "CopyInserts$Search" 117 3 10 (.int) false := ⟨zR3, zT3, 13, zY3, rfl, zi3, zy3, zn3, by decide, rfl, rfl, fun h => absurd h (by decide), Or.inl (zk_mem 145 (by decide +kernel) rfl)⟩
theorem zfS_111 : zk_F "CopyInserts$Search" 111 3 11 (.int) false := ⟨zR3, zT3, 13, zY3, rfl, zi3, zy3, zn3, by decide, rfl, rfl, fun h => absurd h (by decide), Or.inl (zk_mem 146 (by decide +kernel) rfl)⟩
theorem zfS_104 : zk_F "CopyInserts$Search" 104 3 12 (.int) false := ⟨zR3, zT3, 13, zY3, rfl, zi3, zy3, zn3, by decide, rfl, rfl, fun h => absurd h (by decide), Or.inl (zk_mem 147 (by decide +kernel) rfl)⟩
theorem zfC_14 : zk_F "CopyInserts" 14 4 0 (.object "CopyInserts$Row") true := ⟨zR4, zT4, 7, zY4, rfl, zi4, zy4, zn4, by decide, rfl, rfl, fun _ => rfl, Or.inl (zk_mem 175 (by decide +kernel) rfl)⟩
theorem zfC_18 : zk_F "CopyInserts" 18 4 1 (.object "CopyInserts$Row") true := ⟨zR4, zT4, 7, zY4, rfl, zi4, zy4, zn4, by decide, rfl, rfl, fun _ => rfl, Or.inl (zk_mem 176 (by decide +kernel) rfl)⟩
theorem zfC_21 : zk_F "CopyInserts" 21 4 2 (.object "CopyInserts$Row") true := ⟨zR4, zT4, 7, zY4, rfl, zi4, zy4, zn4, by decide, rfl, rfl, fun _ => rfl, Or.inl (zk_mem 177 (by decide +kernel) rfl)⟩
theorem zfC_24 : zk_F "CopyInserts" 24 4 3 (.object "CopyInserts$Row") true := ⟨zR4, zT4, 7, zY4, rfl, zi4, zy4, zn4, by decide, rfl, rfl, fun _ => rfl, Or.inl (zk_mem 178 (by decide +kernel) rfl)⟩
theorem zfC_30 : zk_F "CopyInserts" 30 4 4 (.object "CopyInserts$Numbers") true := ⟨zR4, zT4, 7, zY4, rfl, zi4, zy4, zn4, by decide, rfl, rfl, fun _ => rfl, Or.inl (zk_mem 179 (by decide +kernel) rfl)⟩
theorem zfC_37 : zk_F "CopyInserts" 37 4 5 (.object "CopyInserts$Acts") true := ⟨zR4, zT4, 7, zY4, rfl, zi4, zy4, zn4, by decide, rfl, rfl, fun _ => rfl, Or.inl (zk_mem 180 (by decide +kernel) rfl)⟩
theorem zfC_46 : zk_F "CopyInserts" 46 4 6 (.object "CopyInserts$Search") true := ⟨zR4, zT4, 7, zY4, rfl, zi4, zy4, zn4, by decide, rfl, rfl, fun _ => rfl, Or.inl (zk_mem 181 (by decide +kernel) rfl)⟩
set_option maxRecDepth 20000 in
theorem zbL_13 : zk_BV "CopyInsertsLaw" 13 4 mC_clear 0 := ⟨⟨zk_mem 200 rfl rfl, zk_mem 31 (by decide +kernel) rfl, by decide +kernel, by decide +kernel, Or.inl (zk_mem 197 (by decide +kernel) rfl)⟩, zk_mem 198 (by decide +kernel) rfl, zk_mem 199 (by decide +kernel) rfl, zT4, 7, rfl⟩
set_option maxRecDepth 20000 in
theorem zbC_50 : zk_BV "CopyInserts" 50 2 mR_length 0 := ⟨⟨zk_mem 204 rfl rfl, zk_mem 32 (by decide +kernel) rfl, by decide +kernel, by decide +kernel, Or.inl (zk_mem 201 (by decide +kernel) rfl)⟩, zk_mem 202 (by decide +kernel) rfl, zk_mem 203 (by decide +kernel) rfl, zT2, 2, rfl⟩
set_option maxRecDepth 20000 in
theorem zbC_54 : zk_BV "CopyInserts" 54 2 mR_dropAll 0 := ⟨⟨zk_mem 208 rfl rfl, zk_mem 32 (by decide +kernel) rfl, by decide +kernel, by decide +kernel, Or.inl (zk_mem 205 (by decide +kernel) rfl)⟩, zk_mem 206 (by decide +kernel) rfl, zk_mem 207 (by decide +kernel) rfl, zT2, 2, rfl⟩
set_option maxRecDepth 20000 in
theorem zbC_57 : zk_BV "CopyInserts" 57 1 mN_setFirstOnes 0 := ⟨⟨zk_mem 73 rfl rfl, zk_mem 34 (by decide +kernel) rfl, by decide +kernel, by decide +kernel, Or.inl (zk_mem 209 (by decide +kernel) rfl)⟩, zk_mem 71 (by decide +kernel) rfl, zk_mem 72 (by decide +kernel) rfl, zT1, 5, rfl⟩
set_option maxRecDepth 20000 in
theorem zbC_60 : zk_BV "CopyInserts" 60 0 mA_begin 1 := ⟨⟨zk_mem 213 rfl rfl, zk_mem 35 (by decide +kernel) rfl, by decide +kernel, by decide +kernel, Or.inl (zk_mem 210 (by decide +kernel) rfl)⟩, zk_mem 211 (by decide +kernel) rfl, zk_mem 212 (by decide +kernel) rfl, zT0, 7, rfl⟩
set_option maxRecDepth 20000 in
theorem zbA_40 : zk_BV "CopyInserts$Acts" 40 2 mR_dropAll 0 := ⟨⟨zk_mem 208 rfl rfl, zk_mem 32 (by decide +kernel) rfl, by decide +kernel, by decide +kernel, Or.inl (zk_mem 214 (by decide +kernel) rfl)⟩, zk_mem 206 (by decide +kernel) rfl, zk_mem 207 (by decide +kernel) rfl, zT2, 2, rfl⟩
set_option maxRecDepth 20000 in
theorem zbC_63 : zk_BV "CopyInserts" 63 3 mS_forget 0 := ⟨⟨zk_mem 218 rfl rfl, zk_mem 36 (by decide +kernel) rfl, by decide +kernel, by decide +kernel, Or.inl (zk_mem 215 (by decide +kernel) rfl)⟩, zk_mem 216 (by decide +kernel) rfl, zk_mem 217 (by decide +kernel) rfl, zT3, 13, rfl⟩
set_option maxRecDepth 20000 in
theorem zbL_18 : zk_BV "CopyInsertsLaw" 18 4 mC_put 2 := ⟨⟨zk_mem 222 rfl rfl, zk_mem 31 (by decide +kernel) rfl, by decide +kernel, by decide +kernel, Or.inl (zk_mem 219 (by decide +kernel) rfl)⟩, zk_mem 220 (by decide +kernel) rfl, zk_mem 221 (by decide +kernel) rfl, zT4, 7, rfl⟩
set_option maxRecDepth 20000 in
theorem zbC_66 : zk_BS "CopyInserts" 66 mC_isText 1 := ⟨⟨zk_mem 225 rfl rfl, zk_mem 31 (by decide +kernel) rfl, by decide +kernel, by decide +kernel, Or.inl (zk_mem 223 (by decide +kernel) rfl)⟩, zk_mem 224 (by decide +kernel) rfl⟩
set_option maxRecDepth 20000 in
theorem zbC_70 : zk_BS "CopyInserts" 70 mC_isByte 1 := ⟨⟨zk_mem 228 rfl rfl, zk_mem 31 (by decide +kernel) rfl, by decide +kernel, by decide +kernel, Or.inl (zk_mem 226 (by decide +kernel) rfl)⟩, zk_mem 227 (by decide +kernel) rfl⟩
set_option maxRecDepth 20000 in
theorem zbC_73 : zk_BV "CopyInserts" 73 4 mC_textOf 1 := ⟨⟨zk_mem 232 rfl rfl, zk_mem 31 (by decide +kernel) rfl, by decide +kernel, by decide +kernel, Or.inl (zk_mem 229 (by decide +kernel) rfl)⟩, zk_mem 231 (by decide +kernel) rfl, zk_mem 0 (by decide +kernel) rfl, zT4, 7, rfl⟩
set_option maxRecDepth 20000 in
theorem zbC_77 : zk_BV "CopyInserts" 77 2 mR_isFull 0 := ⟨⟨zk_mem 236 rfl rfl, zk_mem 32 (by decide +kernel) rfl, by decide +kernel, by decide +kernel, Or.inl (zk_mem 233 (by decide +kernel) rfl)⟩, zk_mem 234 (by decide +kernel) rfl, zk_mem 235 (by decide +kernel) rfl, zT2, 2, rfl⟩
set_option maxRecDepth 20000 in
theorem zbC_81 : zk_BV "CopyInserts" 81 2 mR_append 1 := ⟨⟨zk_mem 240 rfl rfl, zk_mem 32 (by decide +kernel) rfl, by decide +kernel, by decide +kernel, Or.inl (zk_mem 237 (by decide +kernel) rfl)⟩, zk_mem 238 (by decide +kernel) rfl, zk_mem 239 (by decide +kernel) rfl, zT2, 2, rfl⟩
set_option maxRecDepth 20000 in
theorem zbR_29 : zk_BV "CopyInserts$Row" 29 2 mR_isFull 0 := ⟨⟨zk_mem 236 rfl rfl, zk_mem 32 (by decide +kernel) rfl, by decide +kernel, by decide +kernel, Or.inl (zk_mem 241 (by decide +kernel) rfl)⟩, zk_mem 234 (by decide +kernel) rfl, zk_mem 235 (by decide +kernel) rfl, zT2, 2, rfl⟩
set_option maxRecDepth 20000 in
theorem zbL_23 : zk_BV "CopyInsertsLaw" 23 4 mC_cut 2 := ⟨⟨zk_mem 245 rfl rfl, zk_mem 31 (by decide +kernel) rfl, by decide +kernel, by decide +kernel, Or.inl (zk_mem 242 (by decide +kernel) rfl)⟩, zk_mem 243 (by decide +kernel) rfl, zk_mem 244 (by decide +kernel) rfl, zT4, 7, rfl⟩
set_option maxRecDepth 20000 in
theorem zbC_84 : zk_BV "CopyInserts" 84 2 mR_dropLast 1 := ⟨⟨zk_mem 249 rfl rfl, zk_mem 32 (by decide +kernel) rfl, by decide +kernel, by decide +kernel, Or.inl (zk_mem 246 (by decide +kernel) rfl)⟩, zk_mem 247 (by decide +kernel) rfl, zk_mem 248 (by decide +kernel) rfl, zT2, 2, rfl⟩
set_option maxRecDepth 20000 in
theorem zbL_27 : zk_BV "CopyInsertsLaw" 27 4 mC_turn 0 := ⟨⟨zk_mem 256 rfl rfl, zk_mem 31 (by decide +kernel) rfl, by decide +kernel, by decide +kernel, Or.inl (zk_mem 253 (by decide +kernel) rfl)⟩, zk_mem 254 (by decide +kernel) rfl, zk_mem 255 (by decide +kernel) rfl, zT4, 7, rfl⟩
set_option maxRecDepth 20000 in
theorem zbC_87 : zk_BV "CopyInserts" 87 2 mR_changeFor 1 := ⟨⟨zk_mem 260 rfl rfl, zk_mem 32 (by decide +kernel) rfl, by decide +kernel, by decide +kernel, Or.inl (zk_mem 257 (by decide +kernel) rfl)⟩, zk_mem 258 (by decide +kernel) rfl, zk_mem 259 (by decide +kernel) rfl, zT2, 2, rfl⟩
set_option maxRecDepth 20000 in
theorem zbL_31 : zk_BV "CopyInsertsLaw" 31 4 mC_costs 5 := ⟨⟨zk_mem 264 rfl rfl, zk_mem 31 (by decide +kernel) rfl, by decide +kernel, by decide +kernel, Or.inl (zk_mem 261 (by decide +kernel) rfl)⟩, zk_mem 262 (by decide +kernel) rfl, zk_mem 263 (by decide +kernel) rfl, zT4, 7, rfl⟩
set_option maxRecDepth 20000 in
theorem zbC_91 : zk_BS "CopyInserts" 91 mC_isNumber 1 := ⟨⟨zk_mem 267 rfl rfl, zk_mem 31 (by decide +kernel) rfl, by decide +kernel, by decide +kernel, Or.inl (zk_mem 265 (by decide +kernel) rfl)⟩, zk_mem 266 (by decide +kernel) rfl⟩
set_option maxRecDepth 20000 in
theorem zbC_94 : zk_BV "CopyInserts" 94 1 mN_countOthers 5 := ⟨⟨zk_mem 271 rfl rfl, zk_mem 34 (by decide +kernel) rfl, by decide +kernel, by decide +kernel, Or.inl (zk_mem 268 (by decide +kernel) rfl)⟩, zk_mem 269 (by decide +kernel) rfl, zk_mem 270 (by decide +kernel) rfl, zT1, 5, rfl⟩
set_option maxRecDepth 20000 in
theorem zbN_34 : zk_BS "CopyInserts$Numbers" 34 mN_oneIfOther 2 := ⟨⟨zk_mem 274 rfl rfl, zk_mem 34 (by decide +kernel) rfl, by decide +kernel, by decide +kernel, Or.inl (zk_mem 272 (by decide +kernel) rfl)⟩, zk_mem 273 (by decide +kernel) rfl⟩
set_option maxRecDepth 20000 in
theorem zbC_98 : zk_BV "CopyInserts" 98 1 mN_set 5 := ⟨⟨zk_mem 77 rfl rfl, zk_mem 34 (by decide +kernel) rfl, by decide +kernel, by decide +kernel, Or.inl (zk_mem 275 (by decide +kernel) rfl)⟩, zk_mem 75 (by decide +kernel) rfl, zk_mem 76 (by decide +kernel) rfl, zT1, 5, rfl⟩
set_option maxRecDepth 20000 in
theorem zbL_36 : zk_BV "CopyInsertsLaw" 36 4 mC_plan 0 := ⟨⟨zk_mem 279 rfl rfl, zk_mem 31 (by decide +kernel) rfl, by decide +kernel, by decide +kernel, Or.inl (zk_mem 276 (by decide +kernel) rfl)⟩, zk_mem 277 (by decide +kernel) rfl, zk_mem 278 (by decide +kernel) rfl, zT4, 7, rfl⟩
set_option maxRecDepth 20000 in
theorem zbC_102 : zk_BV "CopyInserts" 102 2 mR_sum 0 := ⟨⟨zk_mem 283 rfl rfl, zk_mem 32 (by decide +kernel) rfl, by decide +kernel, by decide +kernel, Or.inl (zk_mem 280 (by decide +kernel) rfl)⟩, zk_mem 281 (by decide +kernel) rfl, zk_mem 282 (by decide +kernel) rfl, zT2, 2, rfl⟩
theorem zcR_36 : Cond.constant "CopyInserts$Row" 36 (Int32.ofInt 65521) ∈ zk_T := zk_mem 284 (by decide +kernel) rfl
set_option maxRecDepth 20000 in
theorem zbC_105 : zk_BV "CopyInserts" 105 3 mS_begin 0 := ⟨⟨zk_mem 288 rfl rfl, zk_mem 36 (by decide +kernel) rfl, by decide +kernel, by decide +kernel, Or.inl (zk_mem 285 (by decide +kernel) rfl)⟩, zk_mem 286 (by decide +kernel) rfl, zk_mem 287 (by decide +kernel) rfl, zT3, 13, rfl⟩
set_option maxRecDepth 20000 in
theorem zbS_95 : zk_BV "CopyInserts$Search" 95 3 mS_workOut 0 := ⟨⟨zk_mem 292 rfl rfl, zk_mem 36 (by decide +kernel) rfl, by decide +kernel, by decide +kernel, Or.inl (zk_mem 289 (by decide +kernel) rfl)⟩, zk_mem 290 (by decide +kernel) rfl, zk_mem 291 (by decide +kernel) rfl, zT3, 13, rfl⟩
set_option maxRecDepth 20000 in
theorem zbS_37 : zk_BV "CopyInserts$Search" 37 2 mR_length 0 := ⟨⟨zk_mem 204 rfl rfl, zk_mem 32 (by decide +kernel) rfl, by decide +kernel, by decide +kernel, Or.inl (zk_mem 293 (by decide +kernel) rfl)⟩, zk_mem 202 (by decide +kernel) rfl, zk_mem 203 (by decide +kernel) rfl, zT2, 2, rfl⟩
theorem zcS_36 : Cond.constant "CopyInserts$Search" 36 (Int32.ofInt 1000000) ∈ zk_T := zk_mem 295 (by decide +kernel) rfl
set_option maxRecDepth 20000 in
theorem zbS_49 : zk_BV "CopyInserts$Search" 49 3 mS_workOutPlace 1 := ⟨⟨zk_mem 299 rfl rfl, zk_mem 36 (by decide +kernel) rfl, by decide +kernel, by decide +kernel, Or.inl (zk_mem 296 (by decide +kernel) rfl)⟩, zk_mem 298 (by decide +kernel) rfl, zk_mem 1 (by decide +kernel) rfl, zT3, 13, rfl⟩
set_option maxRecDepth 20000 in
theorem zbS_53 : zk_BV "CopyInserts$Search" 53 3 mS_lengthenCopies 1 := ⟨⟨zk_mem 303 rfl rfl, zk_mem 36 (by decide +kernel) rfl, by decide +kernel, by decide +kernel, Or.inl (zk_mem 300 (by decide +kernel) rfl)⟩, zk_mem 302 (by decide +kernel) rfl, zk_mem 2 (by decide +kernel) rfl, zT3, 13, rfl⟩
set_option maxRecDepth 20000 in
theorem zbS_85 : zk_BV "CopyInserts$Search" 85 2 mR_get 1 := ⟨⟨zk_mem 307 rfl rfl, zk_mem 32 (by decide +kernel) rfl, by decide +kernel, by decide +kernel, Or.inl (zk_mem 304 (by decide +kernel) rfl)⟩, zk_mem 305 (by decide +kernel) rfl, zk_mem 306 (by decide +kernel) rfl, zT2, 2, rfl⟩
set_option maxRecDepth 20000 in
theorem zbR_25 : zk_BV "CopyInserts$Row" 25 2 mR_has 1 := ⟨⟨zk_mem 311 rfl rfl, zk_mem 32 (by decide +kernel) rfl, by decide +kernel, by decide +kernel, Or.inl (zk_mem 308 (by decide +kernel) rfl)⟩, zk_mem 309 (by decide +kernel) rfl, zk_mem 310 (by decide +kernel) rfl, zT2, 2, rfl⟩
set_option maxRecDepth 20000 in
theorem zbS_66 : zk_BV "CopyInserts$Search" 66 3 mS_leastFrom 2 := ⟨⟨zk_mem 315 rfl rfl, zk_mem 36 (by decide +kernel) rfl, by decide +kernel, by decide +kernel, Or.inl (zk_mem 312 (by decide +kernel) rfl)⟩, zk_mem 313 (by decide +kernel) rfl, zk_mem 314 (by decide +kernel) rfl, zT3, 13, rfl⟩
set_option maxRecDepth 20000 in
theorem zbS_57 : zk_BV "CopyInserts$Search" 57 3 mS_longestAgain 1 := ⟨⟨zk_mem 319 rfl rfl, zk_mem 36 (by decide +kernel) rfl, by decide +kernel, by decide +kernel, Or.inl (zk_mem 316 (by decide +kernel) rfl)⟩, zk_mem 318 (by decide +kernel) rfl, zk_mem 3 (by decide +kernel) rfl, zT3, 13, rfl⟩
set_option maxRecDepth 20000 in
theorem zbS_88 : zk_BV "CopyInserts$Search" 88 2 mR_countSame 3 := ⟨⟨zk_mem 323 rfl rfl, zk_mem 32 (by decide +kernel) rfl, by decide +kernel, by decide +kernel, Or.inl (zk_mem 320 (by decide +kernel) rfl)⟩, zk_mem 321 (by decide +kernel) rfl, zk_mem 322 (by decide +kernel) rfl, zT2, 2, rfl⟩
set_option maxRecDepth 20000 in
theorem zbS_81 : zk_BV "CopyInserts$Search" 81 3 mS_leastBehindSelf 3 := ⟨⟨zk_mem 328 rfl rfl, zk_mem 36 (by decide +kernel) rfl, by decide +kernel, by decide +kernel, Or.inl (zk_mem 325 (by decide +kernel) rfl)⟩, zk_mem 327 (by decide +kernel) rfl, zk_mem 4 (by decide +kernel) rfl, zT3, 13, rfl⟩
set_option maxRecDepth 20000 in
theorem zbC_107 : zk_BV "CopyInserts" 107 3 mS_findNext 0 := ⟨⟨zk_mem 332 rfl rfl, zk_mem 36 (by decide +kernel) rfl, by decide +kernel, by decide +kernel, Or.inl (zk_mem 329 (by decide +kernel) rfl)⟩, zk_mem 330 (by decide +kernel) rfl, zk_mem 331 (by decide +kernel) rfl, zT3, 13, rfl⟩
set_option maxRecDepth 20000 in
theorem zbS_107 : zk_BV "CopyInserts$Search" 107 3 mS_choose 2 := ⟨⟨zk_mem 336 rfl rfl, zk_mem 36 (by decide +kernel) rfl, by decide +kernel, by decide +kernel, Or.inl (zk_mem 333 (by decide +kernel) rfl)⟩, zk_mem 335 (by decide +kernel) rfl, zk_mem 5 (by decide +kernel) rfl, zT3, 13, rfl⟩
set_option maxRecDepth 20000 in
theorem zbS_125 : zk_BV "CopyInserts$Search" 125 3 mS_chooseCopy 3 := ⟨⟨zk_mem 340 rfl rfl, zk_mem 36 (by decide +kernel) rfl, by decide +kernel, by decide +kernel, Or.inl (zk_mem 337 (by decide +kernel) rfl)⟩, zk_mem 339 (by decide +kernel) rfl, zk_mem 6 (by decide +kernel) rfl, zT3, 13, rfl⟩
set_option maxRecDepth 20000 in
theorem zbS_135 : zk_BV "CopyInserts$Search" 135 1 mN_ofCopy 2 := ⟨⟨zk_mem 344 rfl rfl, zk_mem 34 (by decide +kernel) rfl, by decide +kernel, by decide +kernel, Or.inl (zk_mem 341 (by decide +kernel) rfl)⟩, zk_mem 342 (by decide +kernel) rfl, zk_mem 343 (by decide +kernel) rfl, zT1, 5, rfl⟩
set_option maxRecDepth 20000 in
theorem zbS_138 : zk_BV "CopyInserts$Search" 138 3 mS_keep 3 := ⟨⟨zk_mem 348 rfl rfl, zk_mem 36 (by decide +kernel) rfl, by decide +kernel, by decide +kernel, Or.inl (zk_mem 345 (by decide +kernel) rfl)⟩, zk_mem 347 (by decide +kernel) rfl, zk_mem 7 (by decide +kernel) rfl, zT3, 13, rfl⟩
set_option maxRecDepth 20000 in
theorem zbS_129 : zk_BV "CopyInserts$Search" 129 3 mS_chooseSelf 3 := ⟨⟨zk_mem 352 rfl rfl, zk_mem 36 (by decide +kernel) rfl, by decide +kernel, by decide +kernel, Or.inl (zk_mem 349 (by decide +kernel) rfl)⟩, zk_mem 351 (by decide +kernel) rfl, zk_mem 8 (by decide +kernel) rfl, zT3, 13, rfl⟩
set_option maxRecDepth 20000 in
theorem zbS_141 : zk_BV "CopyInserts$Search" 141 1 mN_ofSelf 0 := ⟨⟨zk_mem 356 rfl rfl, zk_mem 34 (by decide +kernel) rfl, by decide +kernel, by decide +kernel, Or.inl (zk_mem 353 (by decide +kernel) rfl)⟩, zk_mem 354 (by decide +kernel) rfl, zk_mem 355 (by decide +kernel) rfl, zT1, 5, rfl⟩
set_option maxRecDepth 20000 in
theorem zbS_132 : zk_BV "CopyInserts$Search" 132 3 mS_chooseLay 3 := ⟨⟨zk_mem 360 rfl rfl, zk_mem 36 (by decide +kernel) rfl, by decide +kernel, by decide +kernel, Or.inl (zk_mem 357 (by decide +kernel) rfl)⟩, zk_mem 359 (by decide +kernel) rfl, zk_mem 9 (by decide +kernel) rfl, zT3, 13, rfl⟩
set_option maxRecDepth 20000 in
theorem zbS_144 : zk_BV "CopyInserts$Search" 144 1 mN_ofLay 1 := ⟨⟨zk_mem 364 rfl rfl, zk_mem 34 (by decide +kernel) rfl, by decide +kernel, by decide +kernel, Or.inl (zk_mem 361 (by decide +kernel) rfl)⟩, zk_mem 362 (by decide +kernel) rfl, zk_mem 363 (by decide +kernel) rfl, zT1, 5, rfl⟩
set_option maxRecDepth 20000 in
theorem zbC_110 : zk_BV "CopyInserts" 110 4 mC_takeFoundAct 0 := ⟨⟨zk_mem 368 rfl rfl, zk_mem 31 (by decide +kernel) rfl, by decide +kernel, by decide +kernel, Or.inl (zk_mem 365 (by decide +kernel) rfl)⟩, zk_mem 367 (by decide +kernel) rfl, zk_mem 10 (by decide +kernel) rfl, zT4, 7, rfl⟩
set_option maxRecDepth 20000 in
theorem zbC_203 : zk_BV "CopyInserts" 203 3 mS_foundKind 0 := ⟨⟨zk_mem 372 rfl rfl, zk_mem 36 (by decide +kernel) rfl, by decide +kernel, by decide +kernel, Or.inl (zk_mem 369 (by decide +kernel) rfl)⟩, zk_mem 370 (by decide +kernel) rfl, zk_mem 371 (by decide +kernel) rfl, zT3, 13, rfl⟩
set_option maxRecDepth 20000 in
theorem zbC_206 : zk_BV "CopyInserts" 206 3 mS_foundPlace 0 := ⟨⟨zk_mem 376 rfl rfl, zk_mem 36 (by decide +kernel) rfl, by decide +kernel, by decide +kernel, Or.inl (zk_mem 373 (by decide +kernel) rfl)⟩, zk_mem 374 (by decide +kernel) rfl, zk_mem 375 (by decide +kernel) rfl, zT3, 13, rfl⟩
set_option maxRecDepth 20000 in
theorem zbC_190 : zk_BV "CopyInserts" 190 3 mS_foundCount 0 := ⟨⟨zk_mem 380 rfl rfl, zk_mem 36 (by decide +kernel) rfl, by decide +kernel, by decide +kernel, Or.inl (zk_mem 377 (by decide +kernel) rfl)⟩, zk_mem 378 (by decide +kernel) rfl, zk_mem 379 (by decide +kernel) rfl, zT3, 13, rfl⟩
set_option maxRecDepth 20000 in
theorem zbC_149 : zk_BV "CopyInserts" 149 0 mA_append 3 := ⟨⟨zk_mem 384 rfl rfl, zk_mem 35 (by decide +kernel) rfl, by decide +kernel, by decide +kernel, Or.inl (zk_mem 381 (by decide +kernel) rfl)⟩, zk_mem 382 (by decide +kernel) rfl, zk_mem 383 (by decide +kernel) rfl, zT0, 7, rfl⟩
set_option maxRecDepth 20000 in
theorem zbA_57 : zk_BV "CopyInserts$Acts" 57 0 mA_isFull 0 := ⟨⟨zk_mem 388 rfl rfl, zk_mem 35 (by decide +kernel) rfl, by decide +kernel, by decide +kernel, Or.inl (zk_mem 385 (by decide +kernel) rfl)⟩, zk_mem 386 (by decide +kernel) rfl, zk_mem 387 (by decide +kernel) rfl, zT0, 7, rfl⟩
set_option maxRecDepth 20000 in
theorem zbA_61 : zk_BV "CopyInserts$Acts" 61 2 mR_length 0 := ⟨⟨zk_mem 204 rfl rfl, zk_mem 32 (by decide +kernel) rfl, by decide +kernel, by decide +kernel, Or.inl (zk_mem 389 (by decide +kernel) rfl)⟩, zk_mem 202 (by decide +kernel) rfl, zk_mem 203 (by decide +kernel) rfl, zT2, 2, rfl⟩
set_option maxRecDepth 20000 in
theorem zbC_155 : zk_BV "CopyInserts" 155 0 mA_openLay 0 := ⟨⟨zk_mem 393 rfl rfl, zk_mem 35 (by decide +kernel) rfl, by decide +kernel, by decide +kernel, Or.inl (zk_mem 390 (by decide +kernel) rfl)⟩, zk_mem 391 (by decide +kernel) rfl, zk_mem 392 (by decide +kernel) rfl, zT0, 7, rfl⟩
set_option maxRecDepth 20000 in
theorem zbA_65 : zk_BV "CopyInserts$Acts" 65 0 mA_append 3 := ⟨⟨zk_mem 384 rfl rfl, zk_mem 35 (by decide +kernel) rfl, by decide +kernel, by decide +kernel, Or.inl (zk_mem 394 (by decide +kernel) rfl)⟩, zk_mem 382 (by decide +kernel) rfl, zk_mem 383 (by decide +kernel) rfl, zT0, 7, rfl⟩
set_option maxRecDepth 20000 in
theorem zbC_209 : zk_BV "CopyInserts" 209 3 mS_foundAt 0 := ⟨⟨zk_mem 398 rfl rfl, zk_mem 36 (by decide +kernel) rfl, by decide +kernel, by decide +kernel, Or.inl (zk_mem 395 (by decide +kernel) rfl)⟩, zk_mem 396 (by decide +kernel) rfl, zk_mem 397 (by decide +kernel) rfl, zT3, 13, rfl⟩
set_option maxRecDepth 20000 in
theorem zbC_168 : zk_BV "CopyInserts" 168 2 mR_get 1 := ⟨⟨zk_mem 307 rfl rfl, zk_mem 32 (by decide +kernel) rfl, by decide +kernel, by decide +kernel, Or.inl (zk_mem 399 (by decide +kernel) rfl)⟩, zk_mem 305 (by decide +kernel) rfl, zk_mem 306 (by decide +kernel) rfl, zT2, 2, rfl⟩
set_option maxRecDepth 20000 in
theorem zbC_158 : zk_BV "CopyInserts" 158 0 mA_layByte 1 := ⟨⟨zk_mem 403 rfl rfl, zk_mem 35 (by decide +kernel) rfl, by decide +kernel, by decide +kernel, Or.inl (zk_mem 400 (by decide +kernel) rfl)⟩, zk_mem 401 (by decide +kernel) rfl, zk_mem 402 (by decide +kernel) rfl, zT0, 7, rfl⟩
set_option maxRecDepth 20000 in
theorem zbA_75 : zk_BV "CopyInserts$Acts" 75 0 mA_takesByte 0 := ⟨⟨zk_mem 407 rfl rfl, zk_mem 35 (by decide +kernel) rfl, by decide +kernel, by decide +kernel, Or.inl (zk_mem 404 (by decide +kernel) rfl)⟩, zk_mem 405 (by decide +kernel) rfl, zk_mem 406 (by decide +kernel) rfl, zT0, 7, rfl⟩
set_option maxRecDepth 20000 in
theorem zbA_69 : zk_BV "CopyInserts$Acts" 69 0 mA_kind 1 := ⟨⟨zk_mem 411 rfl rfl, zk_mem 35 (by decide +kernel) rfl, by decide +kernel, by decide +kernel, Or.inl (zk_mem 408 (by decide +kernel) rfl)⟩, zk_mem 409 (by decide +kernel) rfl, zk_mem 410 (by decide +kernel) rfl, zT0, 7, rfl⟩
set_option maxRecDepth 20000 in
theorem zbA_43 : zk_BV "CopyInserts$Acts" 43 0 mA_has 1 := ⟨⟨zk_mem 415 rfl rfl, zk_mem 35 (by decide +kernel) rfl, by decide +kernel, by decide +kernel, Or.inl (zk_mem 412 (by decide +kernel) rfl)⟩, zk_mem 413 (by decide +kernel) rfl, zk_mem 414 (by decide +kernel) rfl, zT0, 7, rfl⟩
set_option maxRecDepth 20000 in
theorem zbA_72 : zk_BV "CopyInserts$Acts" 72 0 mA_count 1 := ⟨⟨zk_mem 419 rfl rfl, zk_mem 35 (by decide +kernel) rfl, by decide +kernel, by decide +kernel, Or.inl (zk_mem 416 (by decide +kernel) rfl)⟩, zk_mem 417 (by decide +kernel) rfl, zk_mem 418 (by decide +kernel) rfl, zT0, 7, rfl⟩
set_option maxRecDepth 20000 in
theorem zbA_78 : zk_BV "CopyInserts$Acts" 78 2 mR_append 1 := ⟨⟨zk_mem 240 rfl rfl, zk_mem 32 (by decide +kernel) rfl, by decide +kernel, by decide +kernel, Or.inl (zk_mem 420 (by decide +kernel) rfl)⟩, zk_mem 238 (by decide +kernel) rfl, zk_mem 239 (by decide +kernel) rfl, zT2, 2, rfl⟩
set_option maxRecDepth 20000 in
theorem zbC_113 : zk_BV "CopyInserts" 113 0 mA_length 0 := ⟨⟨zk_mem 424 rfl rfl, zk_mem 35 (by decide +kernel) rfl, by decide +kernel, by decide +kernel, Or.inl (zk_mem 421 (by decide +kernel) rfl)⟩, zk_mem 422 (by decide +kernel) rfl, zk_mem 423 (by decide +kernel) rfl, zT0, 7, rfl⟩
set_option maxRecDepth 20000 in
theorem zbL_40 : zk_BV "CopyInsertsLaw" 40 4 mC_cost 0 := ⟨⟨zk_mem 428 rfl rfl, zk_mem 31 (by decide +kernel) rfl, by decide +kernel, by decide +kernel, Or.inl (zk_mem 425 (by decide +kernel) rfl)⟩, zk_mem 426 (by decide +kernel) rfl, zk_mem 427 (by decide +kernel) rfl, zT4, 7, rfl⟩
set_option maxRecDepth 20000 in
theorem zbC_114 : zk_BV "CopyInserts" 114 4 mC_costOf 1 := ⟨⟨zk_mem 432 rfl rfl, zk_mem 31 (by decide +kernel) rfl, by decide +kernel, by decide +kernel, Or.inl (zk_mem 429 (by decide +kernel) rfl)⟩, zk_mem 431 (by decide +kernel) rfl, zk_mem 11 (by decide +kernel) rfl, zT4, 7, rfl⟩
set_option maxRecDepth 20000 in
theorem zbC_133 : zk_BV "CopyInserts" 133 0 mA_kind 1 := ⟨⟨zk_mem 411 rfl rfl, zk_mem 35 (by decide +kernel) rfl, by decide +kernel, by decide +kernel, Or.inl (zk_mem 433 (by decide +kernel) rfl)⟩, zk_mem 409 (by decide +kernel) rfl, zk_mem 410 (by decide +kernel) rfl, zT0, 7, rfl⟩
set_option maxRecDepth 20000 in
theorem zbC_139 : zk_BV "CopyInserts" 139 0 mA_place 1 := ⟨⟨zk_mem 437 rfl rfl, zk_mem 35 (by decide +kernel) rfl, by decide +kernel, by decide +kernel, Or.inl (zk_mem 434 (by decide +kernel) rfl)⟩, zk_mem 435 (by decide +kernel) rfl, zk_mem 436 (by decide +kernel) rfl, zT0, 7, rfl⟩
set_option maxRecDepth 20000 in
theorem zbC_142 : zk_BV "CopyInserts" 142 0 mA_spotAhead 1 := ⟨⟨zk_mem 441 rfl rfl, zk_mem 35 (by decide +kernel) rfl, by decide +kernel, by decide +kernel, Or.inl (zk_mem 438 (by decide +kernel) rfl)⟩, zk_mem 439 (by decide +kernel) rfl, zk_mem 440 (by decide +kernel) rfl, zT0, 7, rfl⟩
set_option maxRecDepth 20000 in
theorem zbC_194 : zk_BV "CopyInserts" 194 1 mN_ofCopy 2 := ⟨⟨zk_mem 344 rfl rfl, zk_mem 34 (by decide +kernel) rfl, by decide +kernel, by decide +kernel, Or.inl (zk_mem 443 (by decide +kernel) rfl)⟩, zk_mem 342 (by decide +kernel) rfl, zk_mem 343 (by decide +kernel) rfl, zT1, 5, rfl⟩
set_option maxRecDepth 20000 in
theorem zbC_197 : zk_BV "CopyInserts" 197 1 mN_ofSelf 0 := ⟨⟨zk_mem 356 rfl rfl, zk_mem 34 (by decide +kernel) rfl, by decide +kernel, by decide +kernel, Or.inl (zk_mem 444 (by decide +kernel) rfl)⟩, zk_mem 354 (by decide +kernel) rfl, zk_mem 355 (by decide +kernel) rfl, zT1, 5, rfl⟩
set_option maxRecDepth 20000 in
theorem zbC_136 : zk_BV "CopyInserts" 136 0 mA_count 1 := ⟨⟨zk_mem 419 rfl rfl, zk_mem 35 (by decide +kernel) rfl, by decide +kernel, by decide +kernel, Or.inl (zk_mem 445 (by decide +kernel) rfl)⟩, zk_mem 417 (by decide +kernel) rfl, zk_mem 418 (by decide +kernel) rfl, zT0, 7, rfl⟩
set_option maxRecDepth 20000 in
theorem zbC_200 : zk_BV "CopyInserts" 200 1 mN_ofLay 1 := ⟨⟨zk_mem 364 rfl rfl, zk_mem 34 (by decide +kernel) rfl, by decide +kernel, by decide +kernel, Or.inl (zk_mem 446 (by decide +kernel) rfl)⟩, zk_mem 362 (by decide +kernel) rfl, zk_mem 363 (by decide +kernel) rfl, zT1, 5, rfl⟩
set_option maxRecDepth 20000 in
theorem zbL_44 : zk_BV "CopyInsertsLaw" 44 4 mC_rest 2 := ⟨⟨zk_mem 450 rfl rfl, zk_mem 31 (by decide +kernel) rfl, by decide +kernel, by decide +kernel, Or.inl (zk_mem 447 (by decide +kernel) rfl)⟩, zk_mem 448 (by decide +kernel) rfl, zk_mem 449 (by decide +kernel) rfl, zT4, 7, rfl⟩
set_option maxRecDepth 20000 in
theorem zbC_118 : zk_BV "CopyInserts" 118 3 mS_workOut 0 := ⟨⟨zk_mem 292 rfl rfl, zk_mem 36 (by decide +kernel) rfl, by decide +kernel, by decide +kernel, Or.inl (zk_mem 451 (by decide +kernel) rfl)⟩, zk_mem 290 (by decide +kernel) rfl, zk_mem 291 (by decide +kernel) rfl, zT3, 13, rfl⟩
set_option maxRecDepth 20000 in
theorem zbC_121 : zk_BV "CopyInserts" 121 3 mS_leastFrom 2 := ⟨⟨zk_mem 315 rfl rfl, zk_mem 36 (by decide +kernel) rfl, by decide +kernel, by decide +kernel, Or.inl (zk_mem 452 (by decide +kernel) rfl)⟩, zk_mem 313 (by decide +kernel) rfl, zk_mem 314 (by decide +kernel) rfl, zT3, 13, rfl⟩
set_option maxRecDepth 20000 in
theorem zbL_48 : zk_BV "CopyInsertsLaw" 48 4 mC_match 3 := ⟨⟨zk_mem 456 rfl rfl, zk_mem 31 (by decide +kernel) rfl, by decide +kernel, by decide +kernel, Or.inl (zk_mem 453 (by decide +kernel) rfl)⟩, zk_mem 454 (by decide +kernel) rfl, zk_mem 455 (by decide +kernel) rfl, zT4, 7, rfl⟩
set_option maxRecDepth 20000 in
theorem zbC_125 : zk_BV "CopyInserts" 125 2 mR_has 1 := ⟨⟨zk_mem 311 rfl rfl, zk_mem 32 (by decide +kernel) rfl, by decide +kernel, by decide +kernel, Or.inl (zk_mem 457 (by decide +kernel) rfl)⟩, zk_mem 309 (by decide +kernel) rfl, zk_mem 310 (by decide +kernel) rfl, zT2, 2, rfl⟩
set_option maxRecDepth 20000 in
theorem zbC_128 : zk_BV "CopyInserts" 128 2 mR_countSame 3 := ⟨⟨zk_mem 323 rfl rfl, zk_mem 32 (by decide +kernel) rfl, by decide +kernel, by decide +kernel, Or.inl (zk_mem 458 (by decide +kernel) rfl)⟩, zk_mem 321 (by decide +kernel) rfl, zk_mem 322 (by decide +kernel) rfl, zT2, 2, rfl⟩
set_option maxRecDepth 20000 in
theorem zbL_53 : zk_BV "CopyInsertsLaw" 53 4 mC_act 2 := ⟨⟨zk_mem 462 rfl rfl, zk_mem 31 (by decide +kernel) rfl, by decide +kernel, by decide +kernel, Or.inl (zk_mem 459 (by decide +kernel) rfl)⟩, zk_mem 460 (by decide +kernel) rfl, zk_mem 461 (by decide +kernel) rfl, zT4, 7, rfl⟩
set_option maxRecDepth 20000 in
theorem zbC_132 : zk_BV "CopyInserts" 132 0 mA_has 1 := ⟨⟨zk_mem 415 rfl rfl, zk_mem 35 (by decide +kernel) rfl, by decide +kernel, by decide +kernel, Or.inl (zk_mem 463 (by decide +kernel) rfl)⟩, zk_mem 413 (by decide +kernel) rfl, zk_mem 414 (by decide +kernel) rfl, zT0, 7, rfl⟩
set_option maxRecDepth 20000 in
theorem zbL_57 : zk_BV "CopyInsertsLaw" 57 4 mC_laid 2 := ⟨⟨zk_mem 467 rfl rfl, zk_mem 31 (by decide +kernel) rfl, by decide +kernel, by decide +kernel, Or.inl (zk_mem 464 (by decide +kernel) rfl)⟩, zk_mem 465 (by decide +kernel) rfl, zk_mem 466 (by decide +kernel) rfl, zT4, 7, rfl⟩
set_option maxRecDepth 20000 in
theorem zbC_145 : zk_BV "CopyInserts" 145 0 mA_laidByte 2 := ⟨⟨zk_mem 471 rfl rfl, zk_mem 35 (by decide +kernel) rfl, by decide +kernel, by decide +kernel, Or.inl (zk_mem 468 (by decide +kernel) rfl)⟩, zk_mem 469 (by decide +kernel) rfl, zk_mem 470 (by decide +kernel) rfl, zT0, 7, rfl⟩
set_option maxRecDepth 20000 in
theorem zbA_47 : zk_BV "CopyInserts$Acts" 47 2 mR_get 1 := ⟨⟨zk_mem 307 rfl rfl, zk_mem 32 (by decide +kernel) rfl, by decide +kernel, by decide +kernel, Or.inl (zk_mem 472 (by decide +kernel) rfl)⟩, zk_mem 305 (by decide +kernel) rfl, zk_mem 306 (by decide +kernel) rfl, zT2, 2, rfl⟩
set_option maxRecDepth 20000 in
theorem zbL_61 : zk_BV "CopyInsertsLaw" 61 4 mC_empty 0 := ⟨⟨zk_mem 476 rfl rfl, zk_mem 31 (by decide +kernel) rfl, by decide +kernel, by decide +kernel, Or.inl (zk_mem 473 (by decide +kernel) rfl)⟩, zk_mem 474 (by decide +kernel) rfl, zk_mem 475 (by decide +kernel) rfl, zT4, 7, rfl⟩
set_option maxRecDepth 20000 in
theorem zbL_65 : zk_BV "CopyInsertsLaw" 65 4 mC_add 3 := ⟨⟨zk_mem 480 rfl rfl, zk_mem 31 (by decide +kernel) rfl, by decide +kernel, by decide +kernel, Or.inl (zk_mem 477 (by decide +kernel) rfl)⟩, zk_mem 478 (by decide +kernel) rfl, zk_mem 479 (by decide +kernel) rfl, zT4, 7, rfl⟩
set_option maxRecDepth 20000 in
theorem zbC_148 : zk_BV "CopyInserts" 148 0 mA_isFull 0 := ⟨⟨zk_mem 388 rfl rfl, zk_mem 35 (by decide +kernel) rfl, by decide +kernel, by decide +kernel, Or.inl (zk_mem 481 (by decide +kernel) rfl)⟩, zk_mem 386 (by decide +kernel) rfl, zk_mem 387 (by decide +kernel) rfl, zT0, 7, rfl⟩
set_option maxRecDepth 20000 in
theorem zbL_69 : zk_BV "CopyInsertsLaw" 69 4 mC_lay 1 := ⟨⟨zk_mem 485 rfl rfl, zk_mem 31 (by decide +kernel) rfl, by decide +kernel, by decide +kernel, Or.inl (zk_mem 482 (by decide +kernel) rfl)⟩, zk_mem 483 (by decide +kernel) rfl, zk_mem 484 (by decide +kernel) rfl, zT4, 7, rfl⟩
set_option maxRecDepth 20000 in
theorem zbC_152 : zk_BV "CopyInserts" 152 0 mA_takesByte 0 := ⟨⟨zk_mem 407 rfl rfl, zk_mem 35 (by decide +kernel) rfl, by decide +kernel, by decide +kernel, Or.inl (zk_mem 486 (by decide +kernel) rfl)⟩, zk_mem 405 (by decide +kernel) rfl, zk_mem 406 (by decide +kernel) rfl, zT0, 7, rfl⟩
set_option maxRecDepth 20000 in
theorem zbL_74 : zk_BV "CopyInsertsLaw" 74 4 mC_make 0 := ⟨⟨zk_mem 490 rfl rfl, zk_mem 31 (by decide +kernel) rfl, by decide +kernel, by decide +kernel, Or.inl (zk_mem 487 (by decide +kernel) rfl)⟩, zk_mem 488 (by decide +kernel) rfl, zk_mem 489 (by decide +kernel) rfl, zT4, 7, rfl⟩
set_option maxRecDepth 20000 in
theorem zbC_161 : zk_BV "CopyInserts" 161 0 mA_sum 0 := ⟨⟨zk_mem 494 rfl rfl, zk_mem 35 (by decide +kernel) rfl, by decide +kernel, by decide +kernel, Or.inl (zk_mem 491 (by decide +kernel) rfl)⟩, zk_mem 492 (by decide +kernel) rfl, zk_mem 493 (by decide +kernel) rfl, zT0, 7, rfl⟩
set_option maxRecDepth 20000 in
theorem zbC_162 : zk_BV "CopyInserts" 162 4 mC_fails 1 := ⟨⟨zk_mem 498 rfl rfl, zk_mem 31 (by decide +kernel) rfl, by decide +kernel, by decide +kernel, Or.inl (zk_mem 495 (by decide +kernel) rfl)⟩, zk_mem 497 (by decide +kernel) rfl, zk_mem 12 (by decide +kernel) rfl, zT4, 7, rfl⟩
set_option maxRecDepth 20000 in
theorem zbC_165 : zk_BV "CopyInserts" 165 4 mC_perform 1 := ⟨⟨zk_mem 502 rfl rfl, zk_mem 31 (by decide +kernel) rfl, by decide +kernel, by decide +kernel, Or.inl (zk_mem 499 (by decide +kernel) rfl)⟩, zk_mem 501 (by decide +kernel) rfl, zk_mem 13 (by decide +kernel) rfl, zT4, 7, rfl⟩
set_option maxRecDepth 20000 in
theorem zbC_212 : zk_BV "CopyInserts" 212 4 mC_byteOf 2 := ⟨⟨zk_mem 506 rfl rfl, zk_mem 31 (by decide +kernel) rfl, by decide +kernel, by decide +kernel, Or.inl (zk_mem 503 (by decide +kernel) rfl)⟩, zk_mem 505 (by decide +kernel) rfl, zk_mem 14 (by decide +kernel) rfl, zT4, 7, rfl⟩
set_option maxRecDepth 20000 in
theorem zbL_78 : zk_BV "CopyInsertsLaw" 78 4 mC_made 1 := ⟨⟨zk_mem 510 rfl rfl, zk_mem 31 (by decide +kernel) rfl, by decide +kernel, by decide +kernel, Or.inl (zk_mem 507 (by decide +kernel) rfl)⟩, zk_mem 508 (by decide +kernel) rfl, zk_mem 509 (by decide +kernel) rfl, zT4, 7, rfl⟩
set_option maxRecDepth 20000 in
theorem zbL_82 : zk_BV "CopyInsertsLaw" 82 4 mC_isNew 0 := ⟨⟨zk_mem 514 rfl rfl, zk_mem 31 (by decide +kernel) rfl, by decide +kernel, by decide +kernel, Or.inl (zk_mem 511 (by decide +kernel) rfl)⟩, zk_mem 512 (by decide +kernel) rfl, zk_mem 513 (by decide +kernel) rfl, zT4, 7, rfl⟩
set_option maxRecDepth 20000 in
theorem zbC_171 : zk_BV "CopyInserts" 171 2 mR_isSame 1 := ⟨⟨zk_mem 518 rfl rfl, zk_mem 32 (by decide +kernel) rfl, by decide +kernel, by decide +kernel, Or.inl (zk_mem 515 (by decide +kernel) rfl)⟩, zk_mem 516 (by decide +kernel) rfl, zk_mem 517 (by decide +kernel) rfl, zT2, 2, rfl⟩
set_option maxRecDepth 20000 in
theorem zbR_37 : zk_BV "CopyInserts$Row" 37 2 mR_countSame 3 := ⟨⟨zk_mem 323 rfl rfl, zk_mem 32 (by decide +kernel) rfl, by decide +kernel, by decide +kernel, Or.inl (zk_mem 519 (by decide +kernel) rfl)⟩, zk_mem 321 (by decide +kernel) rfl, zk_mem 322 (by decide +kernel) rfl, zT2, 2, rfl⟩
set_option maxRecDepth 20000 in
theorem zbL_86 : zk_BV "CopyInsertsLaw" 86 4 mC_write 0 := ⟨⟨zk_mem 523 rfl rfl, zk_mem 31 (by decide +kernel) rfl, by decide +kernel, by decide +kernel, Or.inl (zk_mem 520 (by decide +kernel) rfl)⟩, zk_mem 521 (by decide +kernel) rfl, zk_mem 522 (by decide +kernel) rfl, zT4, 7, rfl⟩
set_option maxRecDepth 20000 in
theorem zbC_175 : zk_BV "CopyInserts" 175 4 mC_writeAct 1 := ⟨⟨zk_mem 527 rfl rfl, zk_mem 31 (by decide +kernel) rfl, by decide +kernel, by decide +kernel, Or.inl (zk_mem 524 (by decide +kernel) rfl)⟩, zk_mem 526 (by decide +kernel) rfl, zk_mem 15 (by decide +kernel) rfl, zT4, 7, rfl⟩
set_option maxRecDepth 20000 in
theorem zbL_90 : zk_BV "CopyInsertsLaw" 90 4 mC_code 1 := ⟨⟨zk_mem 531 rfl rfl, zk_mem 31 (by decide +kernel) rfl, by decide +kernel, by decide +kernel, Or.inl (zk_mem 528 (by decide +kernel) rfl)⟩, zk_mem 529 (by decide +kernel) rfl, zk_mem 530 (by decide +kernel) rfl, zT4, 7, rfl⟩
set_option maxRecDepth 20000 in
theorem zbL_94 : zk_BV "CopyInsertsLaw" 94 4 mC_poke 2 := ⟨⟨zk_mem 535 rfl rfl, zk_mem 31 (by decide +kernel) rfl, by decide +kernel, by decide +kernel, Or.inl (zk_mem 532 (by decide +kernel) rfl)⟩, zk_mem 533 (by decide +kernel) rfl, zk_mem 534 (by decide +kernel) rfl, zT4, 7, rfl⟩
set_option maxRecDepth 20000 in
theorem zbC_178 : zk_BV "CopyInserts" 178 2 mR_set 2 := ⟨⟨zk_mem 539 rfl rfl, zk_mem 32 (by decide +kernel) rfl, by decide +kernel, by decide +kernel, Or.inl (zk_mem 536 (by decide +kernel) rfl)⟩, zk_mem 537 (by decide +kernel) rfl, zk_mem 538 (by decide +kernel) rfl, zT2, 2, rfl⟩
set_option maxRecDepth 20000 in
theorem zbL_98 : zk_BV "CopyInsertsLaw" 98 4 mC_shorten 1 := ⟨⟨zk_mem 543 rfl rfl, zk_mem 31 (by decide +kernel) rfl, by decide +kernel, by decide +kernel, Or.inl (zk_mem 540 (by decide +kernel) rfl)⟩, zk_mem 541 (by decide +kernel) rfl, zk_mem 542 (by decide +kernel) rfl, zT4, 7, rfl⟩
set_option maxRecDepth 20000 in
theorem zbL_102 : zk_BV "CopyInsertsLaw" 102 4 mC_read 0 := ⟨⟨zk_mem 547 rfl rfl, zk_mem 31 (by decide +kernel) rfl, by decide +kernel, by decide +kernel, Or.inl (zk_mem 544 (by decide +kernel) rfl)⟩, zk_mem 545 (by decide +kernel) rfl, zk_mem 546 (by decide +kernel) rfl, zT4, 7, rfl⟩
set_option maxRecDepth 20000 in
theorem zbC_181 : zk_BV "CopyInserts" 181 4 mC_findWrongByte 0 := ⟨⟨zk_mem 551 rfl rfl, zk_mem 31 (by decide +kernel) rfl, by decide +kernel, by decide +kernel, Or.inl (zk_mem 548 (by decide +kernel) rfl)⟩, zk_mem 550 (by decide +kernel) rfl, zk_mem 16 (by decide +kernel) rfl, zT4, 7, rfl⟩
set_option maxRecDepth 20000 in
theorem zbC_184 : zk_BV "CopyInserts" 184 4 mC_readAct 1 := ⟨⟨zk_mem 555 rfl rfl, zk_mem 31 (by decide +kernel) rfl, by decide +kernel, by decide +kernel, Or.inl (zk_mem 552 (by decide +kernel) rfl)⟩, zk_mem 554 (by decide +kernel) rfl, zk_mem 17 (by decide +kernel) rfl, zT4, 7, rfl⟩
set_option maxRecDepth 20000 in
theorem zbL_106 : zk_BV "CopyInsertsLaw" 106 4 mC_moved 1 := ⟨⟨zk_mem 559 rfl rfl, zk_mem 31 (by decide +kernel) rfl, by decide +kernel, by decide +kernel, Or.inl (zk_mem 556 (by decide +kernel) rfl)⟩, zk_mem 557 (by decide +kernel) rfl, zk_mem 558 (by decide +kernel) rfl, zT4, 7, rfl⟩
set_option maxRecDepth 20000 in
theorem zbC_187 : zk_BV "CopyInserts" 187 3 mS_wayOfFound 0 := ⟨⟨zk_mem 563 rfl rfl, zk_mem 36 (by decide +kernel) rfl, by decide +kernel, by decide +kernel, Or.inl (zk_mem 560 (by decide +kernel) rfl)⟩, zk_mem 561 (by decide +kernel) rfl, zk_mem 562 (by decide +kernel) rfl, zT3, 13, rfl⟩
set_option maxRecDepth 20000 in
theorem zbS_120 : zk_BS "CopyInserts$Search" 120 mI_compare 2 := ⟨⟨zk_mem 566 rfl rfl, zk_mem 38 (by decide +kernel) rfl, by decide +kernel, by decide +kernel, Or.inl (zk_mem 564 (by decide +kernel) rfl)⟩, zk_mem 565 (by decide +kernel) rfl⟩
set_option maxRecDepth 20000 in
theorem zbL_110 : zk_BV "CopyInsertsLaw" 110 4 mC_of 1 := ⟨⟨zk_mem 570 rfl rfl, zk_mem 31 (by decide +kernel) rfl, by decide +kernel, by decide +kernel, Or.inl (zk_mem 567 (by decide +kernel) rfl)⟩, zk_mem 568 (by decide +kernel) rfl, zk_mem 569 (by decide +kernel) rfl, zT4, 7, rfl⟩
set_option maxRecDepth 20000 in
theorem zbC_193 : zk_BV "CopyInserts" 193 1 mN_get 1 := ⟨⟨zk_mem 574 rfl rfl, zk_mem 34 (by decide +kernel) rfl, by decide +kernel, by decide +kernel, Or.inl (zk_mem 571 (by decide +kernel) rfl)⟩, zk_mem 572 (by decide +kernel) rfl, zk_mem 573 (by decide +kernel) rfl, zT1, 5, rfl⟩
set_option maxRecDepth 20000 in
theorem zbL_114 : zk_BV "CopyInsertsLaw" 114 4 mC_at 2 := ⟨⟨zk_mem 578 rfl rfl, zk_mem 31 (by decide +kernel) rfl, by decide +kernel, by decide +kernel, Or.inl (zk_mem 575 (by decide +kernel) rfl)⟩, zk_mem 576 (by decide +kernel) rfl, zk_mem 577 (by decide +kernel) rfl, zT4, 7, rfl⟩
theorem zoL_10 : zk_O "CopyInsertsLaw" 10 5 22 [.inr none, .inr none, .inl 0, .inl 0, .inl 0, .inl 0, .inl 0, .inl 0, .inr none, .inr none, .inr none, .inr none, .inl 0, .inl 0, .inr none, .inl 0, .inr none, .inl 0, .inr none, .inl 0, .inl 0, .inl 0] := by
  refine ⟨zR5, zT5, zY5, rfl, zi5, zy5, zk_mem 579 (by decide +kernel) rfl, zk_mem 580 (by decide +kernel) rfl, zk_mem 37 (by decide +kernel) rfl, fun G j hj => ?_⟩
  match j, hj with
  | 0, _ => rfl
  | 1, _ => rfl
  | 2, _ => rfl
  | 3, _ => rfl
  | 4, _ => rfl
  | 5, _ => rfl
  | 6, _ => rfl
  | 7, _ => rfl
  | 8, _ => rfl
  | 9, _ => rfl
  | 10, _ => rfl
  | 11, _ => rfl
  | 12, _ => rfl
  | 13, _ => rfl
  | 14, _ => rfl
  | 15, _ => rfl
  | 16, _ => rfl
  | 17, _ => rfl
  | 18, _ => rfl
  | 19, _ => rfl
  | 20, _ => rfl
  | 21, _ => rfl
  | k + 22, h => omega
set_option maxRecDepth 20000 in
theorem zbL_12 : zk_BI "CopyInsertsLaw" 12 mM_init 0 := ⟨⟨zk_mem 583 rfl rfl, zk_mem 37 (by decide +kernel) rfl, by decide +kernel, by decide +kernel, Or.inl (zk_mem 581 (by decide +kernel) rfl)⟩, zk_mem 582 (by decide +kernel) rfl, rfl, rfl⟩
set_option maxRecDepth 20000 in
theorem zbM_37 : zk_BV "CopyInsertsModel" 37 5 mM_begin 0 := ⟨⟨zk_mem 588 rfl rfl, zk_mem 37 (by decide +kernel) rfl, by decide +kernel, by decide +kernel, Or.inl (zk_mem 585 (by decide +kernel) rfl)⟩, zk_mem 587 (by decide +kernel) rfl, zk_mem 18 (by decide +kernel) rfl, zT5, 22, rfl⟩
theorem zfM_7 : zk_F "CopyInsertsModel" 7 5 0 (.array .int) true := ⟨zR5, zT5, 22, zY5, rfl, zi5, zy5, zn5, by decide, rfl, rfl, fun _ => rfl, Or.inl (zk_mem 589 (by decide +kernel) rfl)⟩
theorem zfM_13 : zk_F "CopyInsertsModel" 13 5 1 (.array .int) true := ⟨zR5, zT5, 22, zY5, rfl, zi5, zy5, zn5, by decide, rfl, rfl, fun _ => rfl, Or.inl (zk_mem 590 (by decide +kernel) rfl)⟩
theorem zfM_40 : zk_F "CopyInsertsModel" 40 5 2 (.int) false := ⟨zR5, zT5, 22, zY5, rfl, zi5, zy5, zn5, by decide, rfl, rfl, fun h => absurd h (by decide), Or.inl (zk_mem 591 (by decide +kernel) rfl)⟩
theorem zfM_44 : zk_F "CopyInsertsModel" 44 5 3 (.int) false := ⟨zR5, zT5, 22, zY5, rfl, zi5, zy5, zn5, by decide, rfl, rfl, fun h => absurd h (by decide), Or.inl (zk_mem 592 (by decide +kernel) rfl)⟩
theorem zfM_47 : zk_F "CopyInsertsModel" 47 5 4 (.int) false := ⟨zR5, zT5, 22, zY5, rfl, zi5, zy5, zn5, by decide, rfl, rfl, fun h => absurd h (by decide), Or.inl (zk_mem 593 (by decide +kernel) rfl)⟩
theorem zfM_50 : zk_F "CopyInsertsModel" 50 5 5 (.int) false := ⟨zR5, zT5, 22, zY5, rfl, zi5, zy5, zn5, by decide, rfl, rfl, fun h => absurd h (by decide), Or.inl (zk_mem 594 (by decide +kernel) rfl)⟩
theorem zfM_53 : zk_F "CopyInsertsModel" 53 5 6 (.int) false := ⟨zR5, zT5, 22, zY5, rfl, zi5, zy5, zn5, by decide, rfl, rfl, fun h => absurd h (by decide), Or.inl (zk_mem 595 (by decide +kernel) rfl)⟩
theorem zfM_56 : zk_F "CopyInsertsModel" 56 5 7 (.int) false := ⟨zR5, zT5, 22, zY5, rfl, zi5, zy5, zn5, by decide, rfl, rfl, fun h => absurd h (by decide), Or.inl (zk_mem 596 (by decide +kernel) rfl)⟩
theorem zfM_16 : zk_F "CopyInsertsModel" 16 5 8 (.array .int) true := ⟨zR5, zT5, 22, zY5, rfl, zi5, zy5, zn5, by decide, rfl, rfl, fun _ => rfl, Or.inl (zk_mem 597 (by decide +kernel) rfl)⟩
theorem zfM_19 : zk_F "CopyInsertsModel" 19 5 9 (.array .int) true := ⟨zR5, zT5, 22, zY5, rfl, zi5, zy5, zn5, by decide, rfl, rfl, fun _ => rfl, Or.inl (zk_mem 598 (by decide +kernel) rfl)⟩
theorem zfM_22 : zk_F "CopyInsertsModel" 22 5 10 (.array .int) true := ⟨zR5, zT5, 22, zY5, rfl, zi5, zy5, zn5, by decide, rfl, rfl, fun _ => rfl, Or.inl (zk_mem 599 (by decide +kernel) rfl)⟩
theorem zfM_25 : zk_F "CopyInsertsModel" 25 5 11 (.array .int) true := ⟨zR5, zT5, 22, zY5, rfl, zi5, zy5, zn5, by decide, rfl, rfl, fun _ => rfl, Or.inl (zk_mem 600 (by decide +kernel) rfl)⟩
theorem zfM_59 : zk_F "CopyInsertsModel" 59 5 12 (.int) false := ⟨zR5, zT5, 22, zY5, rfl, zi5, zy5, zn5, by decide, rfl, rfl, fun h => absurd h (by decide), Or.inl (zk_mem 601 (by decide +kernel) rfl)⟩
theorem zfM_62 : zk_F "CopyInsertsModel" 62 5 13 (.int) false := ⟨zR5, zT5, 22, zY5, rfl, zi5, zy5, zn5, by decide, rfl, rfl, fun h => absurd h (by decide), Or.inl (zk_mem 602 (by decide +kernel) rfl)⟩
theorem zfM_28 : zk_F "CopyInsertsModel" 28 5 14 (.array .int) true := ⟨zR5, zT5, 22, zY5, rfl, zi5, zy5, zn5, by decide, rfl, rfl, fun _ => rfl, Or.inl (zk_mem 603 (by decide +kernel) rfl)⟩
theorem zfM_65 : zk_F "CopyInsertsModel" 65 5 15 (.int) false := ⟨zR5, zT5, 22, zY5, rfl, zi5, zy5, zn5, by decide, rfl, rfl, fun h => absurd h (by decide), Or.inl (zk_mem 604 (by decide +kernel) rfl)⟩
theorem zfM_31 : zk_F "CopyInsertsModel" 31 5 16 (.array .int) true := ⟨zR5, zT5, 22, zY5, rfl, zi5, zy5, zn5, by decide, rfl, rfl, fun _ => rfl, Or.inl (zk_mem 605 (by decide +kernel) rfl)⟩
theorem zfM_68 : zk_F "CopyInsertsModel" 68 5 17 (.boolean) false := ⟨zR5, zT5, 22, zY5, rfl, zi5, zy5, zn5, by decide, rfl, rfl, fun h => absurd h (by decide), Or.inl (zk_mem 606 (by decide +kernel) rfl)⟩
theorem zfM_34 : zk_F "CopyInsertsModel" 34 5 18 (.array .int) true := ⟨zR5, zT5, 22, zY5, rfl, zi5, zy5, zn5, by decide, rfl, rfl, fun _ => rfl, Or.inl (zk_mem 607 (by decide +kernel) rfl)⟩
theorem zfM_94 : zk_F "CopyInsertsModel" 94 5 19 (.int) false := ⟨zR5, zT5, 22, zY5, rfl, zi5, zy5, zn5, by decide, rfl, rfl, fun h => absurd h (by decide), Or.inl (zk_mem 608 (by decide +kernel) rfl)⟩
theorem zfM_97 : zk_F "CopyInsertsModel" 97 5 20 (.int) false := ⟨zR5, zT5, 22, zY5, rfl, zi5, zy5, zn5, by decide, rfl, rfl, fun h => absurd h (by decide), Or.inl (zk_mem 609 (by decide +kernel) rfl)⟩
theorem zfM_100 : zk_F "CopyInsertsModel" 100 5 21 (.int) false := ⟨zR5, zT5, 22, zY5, rfl, zi5, zy5, zn5, by decide, rfl, rfl, fun h => absurd h (by decide), Or.inl (zk_mem 610 (by decide +kernel) rfl)⟩
set_option maxRecDepth 20000 in
theorem zbL_17 : zk_BV "CopyInsertsLaw" 17 5 mM_clear 0 := ⟨⟨zk_mem 659 rfl rfl, zk_mem 37 (by decide +kernel) rfl, by decide +kernel, by decide +kernel, Or.inl (zk_mem 656 (by decide +kernel) rfl)⟩, zk_mem 657 (by decide +kernel) rfl, zk_mem 658 (by decide +kernel) rfl, zT5, 22, rfl⟩
set_option maxRecDepth 20000 in
theorem zbL_22 : zk_BV "CopyInsertsLaw" 22 5 mM_put 2 := ⟨⟨zk_mem 663 rfl rfl, zk_mem 37 (by decide +kernel) rfl, by decide +kernel, by decide +kernel, Or.inl (zk_mem 660 (by decide +kernel) rfl)⟩, zk_mem 661 (by decide +kernel) rfl, zk_mem 662 (by decide +kernel) rfl, zT5, 22, rfl⟩
set_option maxRecDepth 20000 in
theorem zbM_77 : zk_BS "CopyInsertsModel" 77 mM_isIn 3 := ⟨⟨zk_mem 666 rfl rfl, zk_mem 37 (by decide +kernel) rfl, by decide +kernel, by decide +kernel, Or.inl (zk_mem 664 (by decide +kernel) rfl)⟩, zk_mem 665 (by decide +kernel) rfl⟩
set_option maxRecDepth 20000 in
theorem zbL_26 : zk_BV "CopyInsertsLaw" 26 5 mM_cut 2 := ⟨⟨zk_mem 670 rfl rfl, zk_mem 37 (by decide +kernel) rfl, by decide +kernel, by decide +kernel, Or.inl (zk_mem 667 (by decide +kernel) rfl)⟩, zk_mem 668 (by decide +kernel) rfl, zk_mem 669 (by decide +kernel) rfl, zT5, 22, rfl⟩
set_option maxRecDepth 20000 in
theorem zbL_30 : zk_BV "CopyInsertsLaw" 30 5 mM_turn 0 := ⟨⟨zk_mem 674 rfl rfl, zk_mem 37 (by decide +kernel) rfl, by decide +kernel, by decide +kernel, Or.inl (zk_mem 671 (by decide +kernel) rfl)⟩, zk_mem 672 (by decide +kernel) rfl, zk_mem 673 (by decide +kernel) rfl, zT5, 22, rfl⟩
set_option maxRecDepth 20000 in
theorem zbL_35 : zk_BV "CopyInsertsLaw" 35 5 mM_costs 5 := ⟨⟨zk_mem 678 rfl rfl, zk_mem 37 (by decide +kernel) rfl, by decide +kernel, by decide +kernel, Or.inl (zk_mem 675 (by decide +kernel) rfl)⟩, zk_mem 676 (by decide +kernel) rfl, zk_mem 677 (by decide +kernel) rfl, zT5, 22, rfl⟩
set_option maxRecDepth 20000 in
theorem zbL_39 : zk_BV "CopyInsertsLaw" 39 5 mM_plan 0 := ⟨⟨zk_mem 682 rfl rfl, zk_mem 37 (by decide +kernel) rfl, by decide +kernel, by decide +kernel, Or.inl (zk_mem 679 (by decide +kernel) rfl)⟩, zk_mem 680 (by decide +kernel) rfl, zk_mem 681 (by decide +kernel) rfl, zT5, 22, rfl⟩
set_option maxRecDepth 20000 in
theorem zbM_103 : zk_BV "CopyInsertsModel" 103 5 mM_learn 0 := ⟨⟨zk_mem 686 rfl rfl, zk_mem 37 (by decide +kernel) rfl, by decide +kernel, by decide +kernel, Or.inl (zk_mem 683 (by decide +kernel) rfl)⟩, zk_mem 685 (by decide +kernel) rfl, zk_mem 19 (by decide +kernel) rfl, zT5, 22, rfl⟩
theorem zcM_81 : Cond.constant "CopyInsertsModel" 81 (Int32.ofInt 1000000) ∈ zk_T := zk_mem 687 (by decide +kernel) rfl
set_option maxRecDepth 20000 in
theorem zbM_82 : zk_BV "CopyInsertsModel" 82 5 mM_like 3 := ⟨⟨zk_mem 691 rfl rfl, zk_mem 37 (by decide +kernel) rfl, by decide +kernel, by decide +kernel, Or.inl (zk_mem 688 (by decide +kernel) rfl)⟩, zk_mem 690 (by decide +kernel) rfl, zk_mem 20 (by decide +kernel) rfl, zT5, 22, rfl⟩
set_option maxRecDepth 20000 in
theorem zbM_72 : zk_BV "CopyInsertsModel" 72 5 mM_byteOf 2 := ⟨⟨zk_mem 695 rfl rfl, zk_mem 37 (by decide +kernel) rfl, by decide +kernel, by decide +kernel, Or.inl (zk_mem 692 (by decide +kernel) rfl)⟩, zk_mem 694 (by decide +kernel) rfl, zk_mem 21 (by decide +kernel) rfl, zT5, 22, rfl⟩
set_option maxRecDepth 20000 in
theorem zbM_86 : zk_BV "CopyInsertsModel" 86 5 mM_costOf 4 := ⟨⟨zk_mem 699 rfl rfl, zk_mem 37 (by decide +kernel) rfl, by decide +kernel, by decide +kernel, Or.inl (zk_mem 696 (by decide +kernel) rfl)⟩, zk_mem 698 (by decide +kernel) rfl, zk_mem 22 (by decide +kernel) rfl, zT5, 22, rfl⟩
set_option maxRecDepth 20000 in
theorem zbM_90 : zk_BV "CopyInsertsModel" 90 5 mM_better 3 := ⟨⟨zk_mem 703 rfl rfl, zk_mem 37 (by decide +kernel) rfl, by decide +kernel, by decide +kernel, Or.inl (zk_mem 700 (by decide +kernel) rfl)⟩, zk_mem 702 (by decide +kernel) rfl, zk_mem 23 (by decide +kernel) rfl, zT5, 22, rfl⟩
set_option maxRecDepth 20000 in
theorem zbM_106 : zk_BV "CopyInsertsModel" 106 5 mM_sumOf 1 := ⟨⟨zk_mem 707 rfl rfl, zk_mem 37 (by decide +kernel) rfl, by decide +kernel, by decide +kernel, Or.inl (zk_mem 704 (by decide +kernel) rfl)⟩, zk_mem 706 (by decide +kernel) rfl, zk_mem 24 (by decide +kernel) rfl, zT5, 22, rfl⟩
theorem zcM_76 : Cond.constant "CopyInsertsModel" 76 (Int32.ofInt 65521) ∈ zk_T := zk_mem 708 (by decide +kernel) rfl
set_option maxRecDepth 20000 in
theorem zbM_110 : zk_BV "CopyInsertsModel" 110 5 mM_find 2 := ⟨⟨zk_mem 712 rfl rfl, zk_mem 37 (by decide +kernel) rfl, by decide +kernel, by decide +kernel, Or.inl (zk_mem 709 (by decide +kernel) rfl)⟩, zk_mem 711 (by decide +kernel) rfl, zk_mem 25 (by decide +kernel) rfl, zT5, 22, rfl⟩
set_option maxRecDepth 20000 in
theorem zbL_43 : zk_BV "CopyInsertsLaw" 43 5 mM_cost 0 := ⟨⟨zk_mem 716 rfl rfl, zk_mem 37 (by decide +kernel) rfl, by decide +kernel, by decide +kernel, Or.inl (zk_mem 713 (by decide +kernel) rfl)⟩, zk_mem 714 (by decide +kernel) rfl, zk_mem 715 (by decide +kernel) rfl, zT5, 22, rfl⟩
set_option maxRecDepth 20000 in
theorem zbM_117 : zk_BV "CopyInsertsModel" 117 5 mM_costAt 1 := ⟨⟨zk_mem 720 rfl rfl, zk_mem 37 (by decide +kernel) rfl, by decide +kernel, by decide +kernel, Or.inl (zk_mem 717 (by decide +kernel) rfl)⟩, zk_mem 719 (by decide +kernel) rfl, zk_mem 26 (by decide +kernel) rfl, zT5, 22, rfl⟩
set_option maxRecDepth 20000 in
theorem zbM_114 : zk_BV "CopyInsertsModel" 114 5 mM_spotOf 1 := ⟨⟨zk_mem 724 rfl rfl, zk_mem 37 (by decide +kernel) rfl, by decide +kernel, by decide +kernel, Or.inl (zk_mem 721 (by decide +kernel) rfl)⟩, zk_mem 723 (by decide +kernel) rfl, zk_mem 27 (by decide +kernel) rfl, zT5, 22, rfl⟩
set_option maxRecDepth 20000 in
theorem zbL_47 : zk_BV "CopyInsertsLaw" 47 5 mM_rest 2 := ⟨⟨zk_mem 728 rfl rfl, zk_mem 37 (by decide +kernel) rfl, by decide +kernel, by decide +kernel, Or.inl (zk_mem 725 (by decide +kernel) rfl)⟩, zk_mem 726 (by decide +kernel) rfl, zk_mem 727 (by decide +kernel) rfl, zT5, 22, rfl⟩
set_option maxRecDepth 20000 in
theorem zbL_52 : zk_BV "CopyInsertsLaw" 52 5 mM_match 3 := ⟨⟨zk_mem 732 rfl rfl, zk_mem 37 (by decide +kernel) rfl, by decide +kernel, by decide +kernel, Or.inl (zk_mem 729 (by decide +kernel) rfl)⟩, zk_mem 730 (by decide +kernel) rfl, zk_mem 731 (by decide +kernel) rfl, zT5, 22, rfl⟩
set_option maxRecDepth 20000 in
theorem zbL_56 : zk_BV "CopyInsertsLaw" 56 5 mM_act 2 := ⟨⟨zk_mem 736 rfl rfl, zk_mem 37 (by decide +kernel) rfl, by decide +kernel, by decide +kernel, Or.inl (zk_mem 733 (by decide +kernel) rfl)⟩, zk_mem 734 (by decide +kernel) rfl, zk_mem 735 (by decide +kernel) rfl, zT5, 22, rfl⟩
set_option maxRecDepth 20000 in
theorem zbL_60 : zk_BV "CopyInsertsLaw" 60 5 mM_laid 2 := ⟨⟨zk_mem 740 rfl rfl, zk_mem 37 (by decide +kernel) rfl, by decide +kernel, by decide +kernel, Or.inl (zk_mem 737 (by decide +kernel) rfl)⟩, zk_mem 738 (by decide +kernel) rfl, zk_mem 739 (by decide +kernel) rfl, zT5, 22, rfl⟩
set_option maxRecDepth 20000 in
theorem zbL_64 : zk_BV "CopyInsertsLaw" 64 5 mM_empty 0 := ⟨⟨zk_mem 744 rfl rfl, zk_mem 37 (by decide +kernel) rfl, by decide +kernel, by decide +kernel, Or.inl (zk_mem 741 (by decide +kernel) rfl)⟩, zk_mem 742 (by decide +kernel) rfl, zk_mem 743 (by decide +kernel) rfl, zT5, 22, rfl⟩
set_option maxRecDepth 20000 in
theorem zbL_68 : zk_BV "CopyInsertsLaw" 68 5 mM_add 3 := ⟨⟨zk_mem 748 rfl rfl, zk_mem 37 (by decide +kernel) rfl, by decide +kernel, by decide +kernel, Or.inl (zk_mem 745 (by decide +kernel) rfl)⟩, zk_mem 746 (by decide +kernel) rfl, zk_mem 747 (by decide +kernel) rfl, zT5, 22, rfl⟩
set_option maxRecDepth 20000 in
theorem zbL_73 : zk_BV "CopyInsertsLaw" 73 5 mM_lay 1 := ⟨⟨zk_mem 752 rfl rfl, zk_mem 37 (by decide +kernel) rfl, by decide +kernel, by decide +kernel, Or.inl (zk_mem 749 (by decide +kernel) rfl)⟩, zk_mem 750 (by decide +kernel) rfl, zk_mem 751 (by decide +kernel) rfl, zT5, 22, rfl⟩
set_option maxRecDepth 20000 in
theorem zbL_77 : zk_BV "CopyInsertsLaw" 77 5 mM_make 0 := ⟨⟨zk_mem 756 rfl rfl, zk_mem 37 (by decide +kernel) rfl, by decide +kernel, by decide +kernel, Or.inl (zk_mem 753 (by decide +kernel) rfl)⟩, zk_mem 754 (by decide +kernel) rfl, zk_mem 755 (by decide +kernel) rfl, zT5, 22, rfl⟩
set_option maxRecDepth 20000 in
theorem zbL_81 : zk_BV "CopyInsertsLaw" 81 5 mM_made 1 := ⟨⟨zk_mem 760 rfl rfl, zk_mem 37 (by decide +kernel) rfl, by decide +kernel, by decide +kernel, Or.inl (zk_mem 757 (by decide +kernel) rfl)⟩, zk_mem 758 (by decide +kernel) rfl, zk_mem 759 (by decide +kernel) rfl, zT5, 22, rfl⟩
set_option maxRecDepth 20000 in
theorem zbL_85 : zk_BV "CopyInsertsLaw" 85 5 mM_isNew 0 := ⟨⟨zk_mem 764 rfl rfl, zk_mem 37 (by decide +kernel) rfl, by decide +kernel, by decide +kernel, Or.inl (zk_mem 761 (by decide +kernel) rfl)⟩, zk_mem 762 (by decide +kernel) rfl, zk_mem 763 (by decide +kernel) rfl, zT5, 22, rfl⟩
set_option maxRecDepth 20000 in
theorem zbL_89 : zk_BV "CopyInsertsLaw" 89 5 mM_write 0 := ⟨⟨zk_mem 768 rfl rfl, zk_mem 37 (by decide +kernel) rfl, by decide +kernel, by decide +kernel, Or.inl (zk_mem 765 (by decide +kernel) rfl)⟩, zk_mem 766 (by decide +kernel) rfl, zk_mem 767 (by decide +kernel) rfl, zT5, 22, rfl⟩
set_option maxRecDepth 20000 in
theorem zbM_120 : zk_BV "CopyInsertsModel" 120 5 mM_code1 1 := ⟨⟨zk_mem 772 rfl rfl, zk_mem 37 (by decide +kernel) rfl, by decide +kernel, by decide +kernel, Or.inl (zk_mem 769 (by decide +kernel) rfl)⟩, zk_mem 771 (by decide +kernel) rfl, zk_mem 28 (by decide +kernel) rfl, zT5, 22, rfl⟩
set_option maxRecDepth 20000 in
theorem zbL_93 : zk_BV "CopyInsertsLaw" 93 5 mM_code 1 := ⟨⟨zk_mem 776 rfl rfl, zk_mem 37 (by decide +kernel) rfl, by decide +kernel, by decide +kernel, Or.inl (zk_mem 773 (by decide +kernel) rfl)⟩, zk_mem 774 (by decide +kernel) rfl, zk_mem 775 (by decide +kernel) rfl, zT5, 22, rfl⟩
set_option maxRecDepth 20000 in
theorem zbL_97 : zk_BV "CopyInsertsLaw" 97 5 mM_poke 2 := ⟨⟨zk_mem 780 rfl rfl, zk_mem 37 (by decide +kernel) rfl, by decide +kernel, by decide +kernel, Or.inl (zk_mem 777 (by decide +kernel) rfl)⟩, zk_mem 778 (by decide +kernel) rfl, zk_mem 779 (by decide +kernel) rfl, zT5, 22, rfl⟩
set_option maxRecDepth 20000 in
theorem zbL_101 : zk_BV "CopyInsertsLaw" 101 5 mM_shorten 1 := ⟨⟨zk_mem 784 rfl rfl, zk_mem 37 (by decide +kernel) rfl, by decide +kernel, by decide +kernel, Or.inl (zk_mem 781 (by decide +kernel) rfl)⟩, zk_mem 782 (by decide +kernel) rfl, zk_mem 783 (by decide +kernel) rfl, zT5, 22, rfl⟩
set_option maxRecDepth 20000 in
theorem zbL_105 : zk_BV "CopyInsertsLaw" 105 5 mM_read 0 := ⟨⟨zk_mem 788 rfl rfl, zk_mem 37 (by decide +kernel) rfl, by decide +kernel, by decide +kernel, Or.inl (zk_mem 785 (by decide +kernel) rfl)⟩, zk_mem 786 (by decide +kernel) rfl, zk_mem 787 (by decide +kernel) rfl, zT5, 22, rfl⟩
set_option maxRecDepth 20000 in
theorem zbM_124 : zk_BV "CopyInsertsModel" 124 5 mM_faultOf 0 := ⟨⟨zk_mem 792 rfl rfl, zk_mem 37 (by decide +kernel) rfl, by decide +kernel, by decide +kernel, Or.inl (zk_mem 789 (by decide +kernel) rfl)⟩, zk_mem 791 (by decide +kernel) rfl, zk_mem 29 (by decide +kernel) rfl, zT5, 22, rfl⟩
set_option maxRecDepth 20000 in
theorem zbL_109 : zk_BV "CopyInsertsLaw" 109 5 mM_moved 1 := ⟨⟨zk_mem 796 rfl rfl, zk_mem 37 (by decide +kernel) rfl, by decide +kernel, by decide +kernel, Or.inl (zk_mem 793 (by decide +kernel) rfl)⟩, zk_mem 794 (by decide +kernel) rfl, zk_mem 795 (by decide +kernel) rfl, zT5, 22, rfl⟩
set_option maxRecDepth 20000 in
theorem zbL_113 : zk_BV "CopyInsertsLaw" 113 5 mM_of 1 := ⟨⟨zk_mem 800 rfl rfl, zk_mem 37 (by decide +kernel) rfl, by decide +kernel, by decide +kernel, Or.inl (zk_mem 797 (by decide +kernel) rfl)⟩, zk_mem 798 (by decide +kernel) rfl, zk_mem 799 (by decide +kernel) rfl, zT5, 22, rfl⟩
set_option maxRecDepth 20000 in
theorem zbL_117 : zk_BV "CopyInsertsLaw" 117 5 mM_at 2 := ⟨⟨zk_mem 804 rfl rfl, zk_mem 37 (by decide +kernel) rfl, by decide +kernel, by decide +kernel, Or.inl (zk_mem 801 (by decide +kernel) rfl)⟩, zk_mem 802 (by decide +kernel) rfl, zk_mem 803 (by decide +kernel) rfl, zT5, 22, rfl⟩
theorem zw_arr : Cond.arrayClass .int ∈ zk_T := zk_mem 63 (by decide +kernel) rfl
theorem zw_oi : Cond.instanceMethod Lib.objectInit ∈ zk_T := zk_mem 45 (by decide +kernel) rfl
theorem zw_oc : Cond.code Lib.objectInit ⟨#[0xb1]⟩ 1 none ∈ zk_T := zk_mem 46 (by decide +kernel) rfl
theorem zw_mi : Cond.initialized "java/lang/Math" ∈ zk_T := zk_mem 33 (by decide +kernel) rfl
theorem zw_maxs : Cond.static Lib.Math.max.name ∈ zk_T := zk_mem 54 (by decide +kernel) rfl
theorem zw_maxc : Cond.code Lib.Math.max.name Lib.Math.max.code 2 (some .int) ∈ zk_T := zk_mem 55 (by decide +kernel) rfl
theorem zw_mins : Cond.static Lib.Math.min.name ∈ zk_T := zk_mem 251 (by decide +kernel) rfl
theorem zw_minc : Cond.code Lib.Math.min.name Lib.Math.min.code 2 (some .int) ∈ zk_T := zk_mem 252 (by decide +kernel) rfl
theorem zlC_3 : Cond.methodLink "CopyInserts" 3 Lib.objectInit ∈ zk_T := zk_mem 44 (by decide +kernel) rfl
theorem zlR_3 : Cond.methodLink "CopyInserts$Row" 3 Lib.objectInit ∈ zk_T := zk_mem 52 (by decide +kernel) rfl
theorem zlR_9 : Cond.methodLink "CopyInserts$Row" 9 Lib.Math.max.name ∈ zk_T := zk_mem 53 (by decide +kernel) rfl
theorem zlN_3 : Cond.methodLink "CopyInserts$Numbers" 3 Lib.objectInit ∈ zk_T := zk_mem 69 (by decide +kernel) rfl
theorem zlA_3 : Cond.methodLink "CopyInserts$Acts" 3 Lib.objectInit ∈ zk_T := zk_mem 104 (by decide +kernel) rfl
theorem zlS_3 : Cond.methodLink "CopyInserts$Search" 3 Lib.objectInit ∈ zk_T := zk_mem 134 (by decide +kernel) rfl
theorem zlR_33 : Cond.methodLink "CopyInserts$Row" 33 Lib.Math.min.name ∈ zk_T := zk_mem 250 (by decide +kernel) rfl
theorem zlS_43 : Cond.methodLink "CopyInserts$Search" 43 Lib.Math.min.name ∈ zk_T := zk_mem 294 (by decide +kernel) rfl
theorem zlS_92 : Cond.methodLink "CopyInserts$Search" 92 Lib.Math.max.name ∈ zk_T := zk_mem 324 (by decide +kernel) rfl
theorem zlA_51 : Cond.methodLink "CopyInserts$Acts" 51 Lib.Math.min.name ∈ zk_T := zk_mem 442 (by decide +kernel) rfl
theorem zlM_1 : Cond.methodLink "CopyInsertsModel" 1 Lib.objectInit ∈ zk_T := zk_mem 584 (by decide +kernel) rfl
