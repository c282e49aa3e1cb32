abbrev y_SP_init : mm_M := (⟨"SystemParts", "<init>", "()V"⟩, prog_1_method_1_code, 1, none, [])
abbrev y_Lines_init : mm_M := (⟨"SystemParts$Lines", "<init>", "()V"⟩, prog_4_method_1_code, 1, none, [])
abbrev y_SP_chosen : mm_M := (⟨"SystemParts", "chosen", "()I"⟩, prog_1_method_11_code, 1, (some .int), [])
abbrev y_Lines_best : mm_M := (⟨"SystemParts$Lines", "best", "()I"⟩, prog_4_method_9_code, 5, (some .int), [])
abbrev y_Lines_pending : mm_M := (⟨"SystemParts$Lines", "pending", "()I"⟩, prog_4_method_8_code, 3, (some .int), [])
abbrev y_SP_take : mm_M := (⟨"SystemParts", "take", "()I"⟩, prog_1_method_12_code, 2, (some .int), [])
abbrev y_Lines_forget : mm_M := (⟨"SystemParts$Lines", "forget", "(I)V"⟩, prog_4_method_10_code, 2, none, [])
abbrev y_SP_reset : mm_M := (⟨"SystemParts", "reset", "()I"⟩, prog_1_method_13_code, 2, (some .int), [])
abbrev y_SP_resetAll : mm_M := (⟨"SystemParts", "resetAll", "(I)V"⟩, prog_1_method_27_code, 4, none, [])
abbrev y_Counts_beginAnew : mm_M := (⟨"SystemParts$Counts", "beginAnew", "()V"⟩, prog_3_method_6_code, 2, none, [])
abbrev y_Rows_beginAnew : mm_M := (⟨"SystemParts$Rows", "beginAnew", "()V"⟩, prog_6_method_9_code, 2, none, [])
abbrev y_Serial_beginAnew : mm_M := (⟨"SystemParts$Serial", "beginAnew", "()V"⟩, prog_8_method_11_code, 1, none, [])
abbrev y_Timer_beginAnew : mm_M := (⟨"SystemParts$Timer", "beginAnew", "()V"⟩, prog_9_method_6_code, 1, none, [])
abbrev y_Part_beginAnew : mm_M := (⟨"SystemParts$Part", "beginAnew", "()V"⟩, prog_5_method_7_code, 1, none, [])
abbrev y_Lines_allDown : mm_M := (⟨"SystemParts$Lines", "allDown", "()V"⟩, prog_4_method_11_code, 1, none, [])
abbrev y_SP_count : mm_M := (⟨"SystemParts", "count", "(I)I"⟩, prog_1_method_14_code, 2, (some .int), [])
abbrev y_SP_allWaiting : mm_M := (⟨"SystemParts", "allWaiting", "()I"⟩, prog_1_method_28_code, 5, (some .int), [])
abbrev y_SP_allGone : mm_M := (⟨"SystemParts", "allGone", "()I"⟩, prog_1_method_29_code, 5, (some .int), [])
abbrev y_Law_part : mm_M := (⟨"SystemPartsLaw", "part", "(LSystemParts;IIIII[J)I"⟩, method_3_code, 8, (some .int), [(0, 16, 19, 13), (0, 16, 23, 15)])
abbrev y_SP_part : mm_M := (⟨"SystemParts", "part", "(IIIII)I"⟩, prog_1_method_2_code, 9, (some .int), [])
abbrev y_SP_lengthOf : mm_M := (⟨"SystemParts", "lengthOf", "(II)I"⟩, prog_1_method_17_code, 2, (some .int), [])
abbrev y_SP_isLine : mm_M := (⟨"SystemParts", "isLine", "(I)Z"⟩, prog_1_method_16_code, 1, (some .boolean), [])
abbrev y_SP_isFree : mm_M := (⟨"SystemParts", "isFree", "(II)Z"⟩, prog_1_method_19_code, 5, (some .boolean), [])
abbrev y_SP_isPlace : mm_M := (⟨"SystemParts", "isPlace", "(I)Z"⟩, prog_1_method_15_code, 1, (some .boolean), [])
abbrev y_Seat_meets : mm_M := (⟨"SystemParts$Seat", "meets", "(II)Z"⟩, prog_7_method_3_code, 3, (some .boolean), [])
abbrev y_Seat_init : mm_M := (⟨"SystemParts$Seat", "<init>", "(IIII)V"⟩, prog_7_method_1_code, 5, none, [])
abbrev y_SP_newPart : mm_M := (⟨"SystemParts", "newPart", "(ILSystemParts$Seat;)LSystemParts$Part;"⟩, prog_1_method_18_code, 2, (some (.object "SystemParts$Part")), [])
abbrev y_Cells_init : mm_M := (⟨"SystemParts$Cells", "<init>", "(LSystemParts$Seat;Z)V"⟩, prog_2_method_1_code, 3, none, [])
abbrev y_Part_init : mm_M := (⟨"SystemParts$Part", "<init>", "(LSystemParts$Seat;)V"⟩, prog_5_method_1_code, 2, none, [])
abbrev y_Timer_init : mm_M := (⟨"SystemParts$Timer", "<init>", "(LSystemParts$Seat;)V"⟩, prog_9_method_1_code, 2, none, [])
abbrev y_Serial_init : mm_M := (⟨"SystemParts$Serial", "<init>", "(LSystemParts$Seat;)V"⟩, prog_8_method_1_code, 2, none, [])
abbrev y_Rows_init : mm_M := (⟨"SystemParts$Rows", "<init>", "(LSystemParts$Seat;)V"⟩, prog_6_method_1_code, 2, none, [])
abbrev y_Counts_init : mm_M := (⟨"SystemParts$Counts", "<init>", "(LSystemParts$Seat;)V"⟩, prog_3_method_1_code, 2, none, [])
abbrev y_Law_load : mm_M := (⟨"SystemPartsLaw", "load", "(LSystemParts;II[J)I"⟩, method_4_code, 5, (some .int), [(0, 10, 13, 13)])
abbrev y_SP_load : mm_M := (⟨"SystemParts", "load", "(II)I"⟩, prog_1_method_3_code, 6, (some .int), [])
abbrev y_SP_partWith : mm_M := (⟨"SystemParts", "partWith", "(I)LSystemParts$Part;"⟩, prog_1_method_20_code, 4, (some (.object "SystemParts$Part")), [])
abbrev y_Cells_look : mm_M := (⟨"SystemParts$Cells", "look", "(I)I"⟩, prog_2_method_2_code, 2, (some .int), [])
abbrev y_Cells_put : mm_M := (⟨"SystemParts$Cells", "put", "(II)V"⟩, prog_2_method_3_code, 3, none, [])
abbrev y_Law_read : mm_M := (⟨"SystemPartsLaw", "read", "(LSystemParts;I[J)I"⟩, method_5_code, 4, (some .int), [(0, 9, 12, 25), (0, 9, 15, 27)])
abbrev y_SP_read : mm_M := (⟨"SystemParts", "read", "(I)I"⟩, prog_1_method_4_code, 4, (some .int), [])
abbrev y_SP_reachPart : mm_M := (⟨"SystemParts", "reachPart", "(I)LSystemParts$Part;"⟩, prog_1_method_21_code, 3, (some (.object "SystemParts$Part")), [])
abbrev y_SP_tallyOne : mm_M := (⟨"SystemParts", "tallyOne", "(I)V"⟩, prog_1_method_26_code, 5, none, [])
abbrev y_Counts_add : mm_M := (⟨"SystemParts$Counts", "add", "(I)V"⟩, prog_3_method_2_code, 2, none, [])
abbrev y_Seat_accessSteps : mm_M := (⟨"SystemParts$Seat", "accessSteps", "()I"⟩, prog_7_method_2_code, 1, (some .int), [])
abbrev y_SP_runSteps : mm_M := (⟨"SystemParts", "runSteps", "(I)Z"⟩, prog_1_method_23_code, 4, (some .boolean), [])
abbrev y_SP_oneStep : mm_M := (⟨"SystemParts", "oneStep", "()Z"⟩, prog_1_method_24_code, 3, (some .boolean), [])
abbrev y_Counts_goOn : mm_M := (⟨"SystemParts$Counts", "goOn", "()Z"⟩, prog_3_method_5_code, 1, (some .boolean), [])
abbrev y_Rows_goOn : mm_M := (⟨"SystemParts$Rows", "goOn", "()Z"⟩, prog_6_method_6_code, 1, (some .boolean), [])
abbrev y_Rows_moveNumbers : mm_M := (⟨"SystemParts$Rows", "moveNumbers", "()V"⟩, prog_6_method_7_code, 3, none, [])
abbrev y_Serial_goOn : mm_M := (⟨"SystemParts$Serial", "goOn", "()Z"⟩, prog_8_method_9_code, 1, (some .boolean), [])
abbrev y_Timer_goOn : mm_M := (⟨"SystemParts$Timer", "goOn", "()Z"⟩, prog_9_method_4_code, 1, (some .boolean), [])
abbrev y_Part_goOn : mm_M := (⟨"SystemParts$Part", "goOn", "()Z"⟩, prog_5_method_5_code, 1, (some .boolean), [])
abbrev y_SP_askingLines : mm_M := (⟨"SystemParts", "askingLines", "()I"⟩, prog_1_method_25_code, 4, (some .int), [])
abbrev y_Rows_wantsAttention : mm_M := (⟨"SystemParts$Rows", "wantsAttention", "()Z"⟩, prog_6_method_8_code, 1, (some .boolean), [])
abbrev y_Serial_wantsAttention : mm_M := (⟨"SystemParts$Serial", "wantsAttention", "()Z"⟩, prog_8_method_10_code, 1, (some .boolean), [])
abbrev y_Timer_wantsAttention : mm_M := (⟨"SystemParts$Timer", "wantsAttention", "()Z"⟩, prog_9_method_5_code, 1, (some .boolean), [])
abbrev y_Part_wantsAttention : mm_M := (⟨"SystemParts$Part", "wantsAttention", "()Z"⟩, prog_5_method_6_code, 1, (some .boolean), [])
abbrev y_Lines_follow : mm_M := (⟨"SystemParts$Lines", "follow", "(I)V"⟩, prog_4_method_7_code, 5, none, [])
abbrev y_Counts_look : mm_M := (⟨"SystemParts$Counts", "look", "(I)I"⟩, prog_3_method_3_code, 2, (some .int), [])
abbrev y_Rows_look : mm_M := (⟨"SystemParts$Rows", "look", "(I)I"⟩, prog_6_method_2_code, 2, (some .int), [])
abbrev y_Rows_inWindow : mm_M := (⟨"SystemParts$Rows", "inWindow", "(I)Z"⟩, prog_6_method_3_code, 2, (some .boolean), [])
abbrev y_Serial_look : mm_M := (⟨"SystemParts$Serial", "look", "(I)I"⟩, prog_8_method_6_code, 2, (some .int), [])
abbrev y_Serial_nextCome : mm_M := (⟨"SystemParts$Serial", "nextCome", "()I"⟩, prog_8_method_7_code, 2, (some .int), [])
abbrev y_Timer_look : mm_M := (⟨"SystemParts$Timer", "look", "(I)I"⟩, prog_9_method_2_code, 2, (some .int), [])
abbrev y_Law_write : mm_M := (⟨"SystemPartsLaw", "write", "(LSystemParts;II[J)I"⟩, method_6_code, 5, (some .int), [(0, 10, 13, 25), (0, 10, 17, 27)])
abbrev y_SP_write : mm_M := (⟨"SystemParts", "write", "(II)I"⟩, prog_1_method_5_code, 4, (some .int), [])
abbrev y_Cells_refusesWrites : mm_M := (⟨"SystemParts$Cells", "refusesWrites", "()Z"⟩, prog_2_method_4_code, 1, (some .boolean), [])
abbrev y_Part_refusesWrites : mm_M := (⟨"SystemParts$Part", "refusesWrites", "()Z"⟩, prog_5_method_4_code, 1, (some .boolean), [])
abbrev y_Counts_put : mm_M := (⟨"SystemParts$Counts", "put", "(II)V"⟩, prog_3_method_4_code, 3, none, [])
abbrev y_Rows_put : mm_M := (⟨"SystemParts$Rows", "put", "(II)V"⟩, prog_6_method_4_code, 3, none, [])
abbrev y_Rows_begin : mm_M := (⟨"SystemParts$Rows", "begin", "(I)V"⟩, prog_6_method_5_code, 2, none, [])
abbrev y_Serial_put : mm_M := (⟨"SystemParts$Serial", "put", "(II)V"⟩, prog_8_method_8_code, 3, none, [])
abbrev y_Timer_put : mm_M := (⟨"SystemParts$Timer", "put", "(II)V"⟩, prog_9_method_3_code, 3, none, [])
abbrev y_Law_step : mm_M := (⟨"SystemPartsLaw", "step", "(LSystemParts;I[J)I"⟩, method_7_code, 4, (some .int), [(0, 16, 19, 13)])
abbrev y_SP_step : mm_M := (⟨"SystemParts", "step", "(I)Z"⟩, prog_1_method_6_code, 2, (some .boolean), [])
abbrev y_Law_receive : mm_M := (⟨"SystemPartsLaw", "receive", "(LSystemParts;II[J)I"⟩, method_8_code, 5, (some .int), [(0, 10, 13, 13), (0, 10, 17, 15)])
abbrev y_SP_receive : mm_M := (⟨"SystemParts", "receive", "(II)I"⟩, prog_1_method_7_code, 4, (some .int), [])
abbrev y_SP_serialAt : mm_M := (⟨"SystemParts", "serialAt", "(I)LSystemParts$Serial;"⟩, prog_1_method_22_code, 4, (some (.object "SystemParts$Serial")), [])
abbrev y_Serial_isFull : mm_M := (⟨"SystemParts$Serial", "isFull", "()Z"⟩, prog_8_method_2_code, 1, (some .boolean), [])
abbrev y_Serial_accept : mm_M := (⟨"SystemParts$Serial", "accept", "(I)I"⟩, prog_8_method_3_code, 2, (some .int), [])
abbrev y_Law_sent : mm_M := (⟨"SystemPartsLaw", "sent", "(LSystemParts;II[J)I"⟩, method_9_code, 5, (some .int), [(0, 10, 13, 13), (0, 10, 17, 25)])
abbrev y_SP_sent : mm_M := (⟨"SystemParts", "sent", "(II)I"⟩, prog_1_method_8_code, 4, (some .int), [])
abbrev y_Serial_goneKept : mm_M := (⟨"SystemParts$Serial", "goneKept", "()I"⟩, prog_8_method_4_code, 1, (some .int), [])
abbrev y_Serial_goneAt : mm_M := (⟨"SystemParts$Serial", "goneAt", "(I)I"⟩, prog_8_method_5_code, 2, (some .int), [])
abbrev y_Law_line : mm_M := (⟨"SystemPartsLaw", "line", "(LSystemParts;III[J)I"⟩, method_10_code, 6, (some .int), [(0, 12, 15, 25), (0, 12, 19, 13)])
abbrev y_SP_line : mm_M := (⟨"SystemParts", "line", "(III)I"⟩, prog_1_method_9_code, 4, (some .int), [])
abbrev y_Lines_greatest : mm_M := (⟨"SystemParts$Lines", "greatest", "(I)I"⟩, prog_4_method_2_code, 1, (some .int), [])
abbrev y_Lines_change : mm_M := (⟨"SystemParts$Lines", "change", "(III)I"⟩, prog_4_method_3_code, 4, (some .int), [])
abbrev y_Lines_changeWay : mm_M := (⟨"SystemParts$Lines", "changeWay", "(II)I"⟩, prog_4_method_4_code, 4, (some .int), [])
abbrev y_Lines_changeRank : mm_M := (⟨"SystemParts$Lines", "changeRank", "(II)I"⟩, prog_4_method_5_code, 4, (some .int), [])
abbrev y_Lines_changeHidden : mm_M := (⟨"SystemParts$Lines", "changeHidden", "(II)I"⟩, prog_4_method_6_code, 4, (some .int), [])
abbrev y_Law_asks : mm_M := (⟨"SystemPartsLaw", "asks", "(LSystemParts;I[J)I"⟩, method_11_code, 4, (some .int), [(0, 9, 12, 25)])
abbrev y_SP_asks : mm_M := (⟨"SystemParts", "asks", "(I)I"⟩, prog_1_method_10_code, 4, (some .int), [])
abbrev y_Model_init : mm_M := (⟨"SystemPartsModel", "<init>", "()V"⟩, prog_11_method_1_code, 1, none, [])
abbrev y_Model_thrown : mm_M := (⟨"SystemPartsModel", "thrown", "()I"⟩, prog_11_method_2_code, 1, (some .int), [])
abbrev y_Model_part : mm_M := (⟨"SystemPartsModel", "part", "(IIIII)I"⟩, prog_11_method_6_code, 9, (some .int), [])
abbrev y_Model_within : mm_M := (⟨"SystemPartsModel", "within", "(III)Z"⟩, prog_11_method_4_code, 3, (some .boolean), [])
abbrev y_Model_sizeOf : mm_M := (⟨"SystemPartsModel", "sizeOf", "(II)I"⟩, prog_11_method_5_code, 2, (some .int), [])
abbrev y_Model_fail : mm_M := (⟨"SystemPartsModel", "fail", "(I)I"⟩, prog_11_method_3_code, 2, (some .int), [])
abbrev y_Model_load : mm_M := (⟨"SystemPartsModel", "load", "(II)I"⟩, prog_11_method_8_code, 6, (some .int), [])
abbrev y_Model_partAt : mm_M := (⟨"SystemPartsModel", "partAt", "(I)I"⟩, prog_11_method_7_code, 3, (some .int), [])
abbrev y_Model_step : mm_M := (⟨"SystemPartsModel", "step", "(I)Z"⟩, prog_11_method_16_code, 4, (some .boolean), [])
abbrev y_Model_stepOnce : mm_M := (⟨"SystemPartsModel", "stepOnce", "()Z"⟩, prog_11_method_15_code, 2, (some .boolean), [])
abbrev y_Model_timerStep : mm_M := (⟨"SystemPartsModel", "timerStep", "(I)Z"⟩, prog_11_method_12_code, 2, (some .boolean), [])
abbrev y_Model_resetAll : mm_M := (⟨"SystemPartsModel", "resetAll", "(I)V"⟩, prog_11_method_9_code, 4, none, [])
abbrev y_Model_sendStep : mm_M := (⟨"SystemPartsModel", "sendStep", "(I)V"⟩, prog_11_method_13_code, 3, none, [])
abbrev y_Model_rowStep : mm_M := (⟨"SystemPartsModel", "rowStep", "(I)V"⟩, prog_11_method_14_code, 5, none, [])
abbrev y_Model_lookAtLines : mm_M := (⟨"SystemPartsModel", "lookAtLines", "()V"⟩, prog_11_method_11_code, 4, none, [])
abbrev y_Model_asksNow : mm_M := (⟨"SystemPartsModel", "asksNow", "(I)Z"⟩, prog_11_method_10_code, 3, (some .boolean), [])
abbrev y_Model_read : mm_M := (⟨"SystemPartsModel", "read", "(I)I"⟩, prog_11_method_20_code, 5, (some .int), [])
abbrev y_Model_countAll : mm_M := (⟨"SystemPartsModel", "countAll", "(I)V"⟩, prog_11_method_17_code, 3, none, [])
abbrev y_Model_waitFor : mm_M := (⟨"SystemPartsModel", "waitFor", "(I)V"⟩, prog_11_method_18_code, 3, none, [])
abbrev y_Model_takeIn : mm_M := (⟨"SystemPartsModel", "takeIn", "(I)I"⟩, prog_11_method_19_code, 4, (some .int), [])
abbrev y_Model_write : mm_M := (⟨"SystemPartsModel", "write", "(II)I"⟩, prog_11_method_24_code, 5, (some .int), [])
abbrev y_Model_writeTimer : mm_M := (⟨"SystemPartsModel", "writeTimer", "(III)V"⟩, prog_11_method_21_code, 4, none, [])
abbrev y_Model_writeSerial : mm_M := (⟨"SystemPartsModel", "writeSerial", "(III)V"⟩, prog_11_method_22_code, 4, none, [])
abbrev y_Model_writeRows : mm_M := (⟨"SystemPartsModel", "writeRows", "(III)V"⟩, prog_11_method_23_code, 6, none, [])
abbrev y_Model_receive : mm_M := (⟨"SystemPartsModel", "receive", "(II)I"⟩, prog_11_method_26_code, 3, (some .int), [])
abbrev y_Model_isSerial : mm_M := (⟨"SystemPartsModel", "isSerial", "(I)Z"⟩, prog_11_method_25_code, 2, (some .boolean), [])
abbrev y_Model_sent : mm_M := (⟨"SystemPartsModel", "sent", "(II)I"⟩, prog_11_method_27_code, 4, (some .int), [])
abbrev y_Model_line : mm_M := (⟨"SystemPartsModel", "line", "(III)I"⟩, prog_11_method_28_code, 5, (some .int), [])
abbrev y_Model_asks : mm_M := (⟨"SystemPartsModel", "asks", "(I)I"⟩, prog_11_method_30_code, 2, (some .int), [])
abbrev y_Model_isPending : mm_M := (⟨"SystemPartsModel", "isPending", "(I)Z"⟩, prog_11_method_29_code, 2, (some .boolean), [])
abbrev y_Model_chosen : mm_M := (⟨"SystemPartsModel", "chosen", "()I"⟩, prog_11_method_32_code, 1, (some .int), [])
abbrev y_Model_choose : mm_M := (⟨"SystemPartsModel", "choose", "()I"⟩, prog_11_method_31_code, 3, (some .int), [])
abbrev y_Model_take : mm_M := (⟨"SystemPartsModel", "take", "()I"⟩, prog_11_method_33_code, 2, (some .int), [])
abbrev y_Model_reset : mm_M := (⟨"SystemPartsModel", "reset", "()I"⟩, prog_11_method_34_code, 2, (some .int), [])
abbrev y_Model_count : mm_M := (⟨"SystemPartsModel", "count", "(I)I"⟩, prog_11_method_35_code, 5, (some .int), [])
abbrev y_Law_law : mm_M := (⟨"SystemPartsLaw", "law", "([I)Z"⟩, code, 7, (some .boolean), [])
/-- what every call asks of the callee -/
def mm_Ce (y : mm_M) : Prop := y.2.2.1 ≤ 16 ∧ mm_code y ∈ lw_tbl ∧ mm_ok (mm_code y) = true ∧ Cond.initialized y.1.cls ∈ lw_tbl ∧ plainName y.1.cls = true ∧ (y.1.cls ≠ "java/lang/invoke/MethodHandle" ∧ y.1.cls ≠ "java/lang/invoke/VarHandle")
set_option maxRecDepth 100000 in
theorem ce_SP_init : mm_Ce y_SP_init := ⟨by decide, m_23, rfl, m_1, by decide +kernel, by decide +kernel, by decide +kernel⟩
set_option maxRecDepth 100000 in
theorem ce_Lines_init : mm_Ce y_Lines_init := ⟨by decide, m_33, rfl, m_2, by decide +kernel, by decide +kernel, by decide +kernel⟩
set_option maxRecDepth 100000 in
theorem ce_SP_chosen : mm_Ce y_SP_chosen := ⟨by decide, m_75, rfl, m_1, by decide +kernel, by decide +kernel, by decide +kernel⟩
set_option maxRecDepth 100000 in
theorem ce_Lines_best : mm_Ce y_Lines_best := ⟨by decide, m_79, rfl, m_2, by decide +kernel, by decide +kernel, by decide +kernel⟩
set_option maxRecDepth 100000 in
theorem ce_Lines_pending : mm_Ce y_Lines_pending := ⟨by decide, m_83, rfl, m_2, by decide +kernel, by decide +kernel, by decide +kernel⟩
set_option maxRecDepth 100000 in
theorem ce_SP_take : mm_Ce y_SP_take := ⟨by decide, m_87, rfl, m_1, by decide +kernel, by decide +kernel, by decide +kernel⟩
set_option maxRecDepth 100000 in
theorem ce_Lines_forget : mm_Ce y_Lines_forget := ⟨by decide, m_91, rfl, m_2, by decide +kernel, by decide +kernel, by decide +kernel⟩
set_option maxRecDepth 100000 in
theorem ce_SP_reset : mm_Ce y_SP_reset := ⟨by decide, m_95, rfl, m_1, by decide +kernel, by decide +kernel, by decide +kernel⟩
set_option maxRecDepth 100000 in
theorem ce_SP_resetAll : mm_Ce y_SP_resetAll := ⟨by decide, m_99, rfl, m_1, by decide +kernel, by decide +kernel, by decide +kernel⟩
set_option maxRecDepth 100000 in
theorem ce_Counts_beginAnew : mm_Ce y_Counts_beginAnew := ⟨by decide, m_106, rfl, m_15, by decide +kernel, by decide +kernel, by decide +kernel⟩
set_option maxRecDepth 100000 in
theorem ce_Rows_beginAnew : mm_Ce y_Rows_beginAnew := ⟨by decide, m_109, rfl, m_14, by decide +kernel, by decide +kernel, by decide +kernel⟩
set_option maxRecDepth 100000 in
theorem ce_Serial_beginAnew : mm_Ce y_Serial_beginAnew := ⟨by decide, m_112, rfl, m_13, by decide +kernel, by decide +kernel, by decide +kernel⟩
set_option maxRecDepth 100000 in
theorem ce_Timer_beginAnew : mm_Ce y_Timer_beginAnew := ⟨by decide, m_115, rfl, m_12, by decide +kernel, by decide +kernel, by decide +kernel⟩
set_option maxRecDepth 100000 in
theorem ce_Part_beginAnew : mm_Ce y_Part_beginAnew := ⟨by decide, m_116, rfl, m_10, by decide +kernel, by decide +kernel, by decide +kernel⟩
set_option maxRecDepth 100000 in
theorem ce_Lines_allDown : mm_Ce y_Lines_allDown := ⟨by decide, m_120, rfl, m_2, by decide +kernel, by decide +kernel, by decide +kernel⟩
set_option maxRecDepth 100000 in
theorem ce_SP_count : mm_Ce y_SP_count := ⟨by decide, m_124, rfl, m_1, by decide +kernel, by decide +kernel, by decide +kernel⟩
set_option maxRecDepth 100000 in
theorem ce_SP_allWaiting : mm_Ce y_SP_allWaiting := ⟨by decide, m_129, rfl, m_1, by decide +kernel, by decide +kernel, by decide +kernel⟩
set_option maxRecDepth 100000 in
theorem ce_SP_allGone : mm_Ce y_SP_allGone := ⟨by decide, m_134, rfl, m_1, by decide +kernel, by decide +kernel, by decide +kernel⟩
set_option maxRecDepth 100000 in
theorem ce_Law_part : mm_Ce y_Law_part := ⟨by decide, m_137, rfl, m_0, by decide +kernel, by decide +kernel, by decide +kernel⟩
set_option maxRecDepth 100000 in
theorem ce_SP_part : mm_Ce y_SP_part := ⟨by decide, m_143, rfl, m_1, by decide +kernel, by decide +kernel, by decide +kernel⟩
set_option maxRecDepth 100000 in
theorem ce_SP_lengthOf : mm_Ce y_SP_lengthOf := ⟨by decide, m_146, rfl, m_1, by decide +kernel, by decide +kernel, by decide +kernel⟩
set_option maxRecDepth 100000 in
theorem ce_SP_isLine : mm_Ce y_SP_isLine := ⟨by decide, m_149, rfl, m_1, by decide +kernel, by decide +kernel, by decide +kernel⟩
set_option maxRecDepth 100000 in
theorem ce_SP_isFree : mm_Ce y_SP_isFree := ⟨by decide, m_153, rfl, m_1, by decide +kernel, by decide +kernel, by decide +kernel⟩
set_option maxRecDepth 100000 in
theorem ce_SP_isPlace : mm_Ce y_SP_isPlace := ⟨by decide, m_156, rfl, m_1, by decide +kernel, by decide +kernel, by decide +kernel⟩
set_option maxRecDepth 100000 in
theorem ce_Seat_meets : mm_Ce y_Seat_meets := ⟨by decide, m_161, rfl, m_9, by decide +kernel, by decide +kernel, by decide +kernel⟩
set_option maxRecDepth 100000 in
theorem ce_Seat_init : mm_Ce y_Seat_init := ⟨by decide, m_251, rfl, m_9, by decide +kernel, by decide +kernel, by decide +kernel⟩
set_option maxRecDepth 100000 in
theorem ce_SP_newPart : mm_Ce y_SP_newPart := ⟨by decide, m_271, rfl, m_1, by decide +kernel, by decide +kernel, by decide +kernel⟩
set_option maxRecDepth 100000 in
theorem ce_Cells_init : mm_Ce y_Cells_init := ⟨by decide, m_276, rfl, m_11, by decide +kernel, by decide +kernel, by decide +kernel⟩
set_option maxRecDepth 100000 in
theorem ce_Part_init : mm_Ce y_Part_init := ⟨by decide, m_279, rfl, m_10, by decide +kernel, by decide +kernel, by decide +kernel⟩
set_option maxRecDepth 100000 in
theorem ce_Timer_init : mm_Ce y_Timer_init := ⟨by decide, m_298, rfl, m_12, by decide +kernel, by decide +kernel, by decide +kernel⟩
set_option maxRecDepth 100000 in
theorem ce_Serial_init : mm_Ce y_Serial_init := ⟨by decide, m_317, rfl, m_13, by decide +kernel, by decide +kernel, by decide +kernel⟩
set_option maxRecDepth 100000 in
theorem ce_Rows_init : mm_Ce y_Rows_init := ⟨by decide, m_351, rfl, m_14, by decide +kernel, by decide +kernel, by decide +kernel⟩
set_option maxRecDepth 100000 in
theorem ce_Counts_init : mm_Ce y_Counts_init := ⟨by decide, m_380, rfl, m_15, by decide +kernel, by decide +kernel, by decide +kernel⟩
set_option maxRecDepth 100000 in
theorem ce_Law_load : mm_Ce y_Law_load := ⟨by decide, m_389, rfl, m_0, by decide +kernel, by decide +kernel, by decide +kernel⟩
set_option maxRecDepth 100000 in
theorem ce_SP_load : mm_Ce y_SP_load := ⟨by decide, m_393, rfl, m_1, by decide +kernel, by decide +kernel, by decide +kernel⟩
set_option maxRecDepth 100000 in
theorem ce_SP_partWith : mm_Ce y_SP_partWith := ⟨by decide, m_397, rfl, m_1, by decide +kernel, by decide +kernel, by decide +kernel⟩
set_option maxRecDepth 100000 in
theorem ce_Cells_look : mm_Ce y_Cells_look := ⟨by decide, m_401, rfl, m_11, by decide +kernel, by decide +kernel, by decide +kernel⟩
set_option maxRecDepth 100000 in
theorem ce_Cells_put : mm_Ce y_Cells_put := ⟨by decide, m_405, rfl, m_11, by decide +kernel, by decide +kernel, by decide +kernel⟩
set_option maxRecDepth 100000 in
theorem ce_Law_read : mm_Ce y_Law_read := ⟨by decide, m_409, rfl, m_0, by decide +kernel, by decide +kernel, by decide +kernel⟩
set_option maxRecDepth 100000 in
theorem ce_SP_read : mm_Ce y_SP_read := ⟨by decide, m_415, rfl, m_1, by decide +kernel, by decide +kernel, by decide +kernel⟩
set_option maxRecDepth 100000 in
theorem ce_SP_reachPart : mm_Ce y_SP_reachPart := ⟨by decide, m_419, rfl, m_1, by decide +kernel, by decide +kernel, by decide +kernel⟩
set_option maxRecDepth 100000 in
theorem ce_SP_tallyOne : mm_Ce y_SP_tallyOne := ⟨by decide, m_439, rfl, m_1, by decide +kernel, by decide +kernel, by decide +kernel⟩
set_option maxRecDepth 100000 in
theorem ce_Counts_add : mm_Ce y_Counts_add := ⟨by decide, m_443, rfl, m_15, by decide +kernel, by decide +kernel, by decide +kernel⟩
set_option maxRecDepth 100000 in
theorem ce_Seat_accessSteps : mm_Ce y_Seat_accessSteps := ⟨by decide, m_463, rfl, m_9, by decide +kernel, by decide +kernel, by decide +kernel⟩
set_option maxRecDepth 100000 in
theorem ce_SP_runSteps : mm_Ce y_SP_runSteps := ⟨by decide, m_467, rfl, m_1, by decide +kernel, by decide +kernel, by decide +kernel⟩
set_option maxRecDepth 100000 in
theorem ce_SP_oneStep : mm_Ce y_SP_oneStep := ⟨by decide, m_471, rfl, m_1, by decide +kernel, by decide +kernel, by decide +kernel⟩
set_option maxRecDepth 100000 in
theorem ce_Counts_goOn : mm_Ce y_Counts_goOn := ⟨by decide, m_478, rfl, m_15, by decide +kernel, by decide +kernel, by decide +kernel⟩
set_option maxRecDepth 100000 in
theorem ce_Rows_goOn : mm_Ce y_Rows_goOn := ⟨by decide, m_482, rfl, m_14, by decide +kernel, by decide +kernel, by decide +kernel⟩
set_option maxRecDepth 100000 in
theorem ce_Rows_moveNumbers : mm_Ce y_Rows_moveNumbers := ⟨by decide, m_486, rfl, m_14, by decide +kernel, by decide +kernel, by decide +kernel⟩
set_option maxRecDepth 100000 in
theorem ce_Serial_goOn : mm_Ce y_Serial_goOn := ⟨by decide, m_489, rfl, m_13, by decide +kernel, by decide +kernel, by decide +kernel⟩
set_option maxRecDepth 100000 in
theorem ce_Timer_goOn : mm_Ce y_Timer_goOn := ⟨by decide, m_492, rfl, m_12, by decide +kernel, by decide +kernel, by decide +kernel⟩
set_option maxRecDepth 100000 in
theorem ce_Part_goOn : mm_Ce y_Part_goOn := ⟨by decide, m_493, rfl, m_10, by decide +kernel, by decide +kernel, by decide +kernel⟩
set_option maxRecDepth 100000 in
theorem ce_SP_askingLines : mm_Ce y_SP_askingLines := ⟨by decide, m_497, rfl, m_1, by decide +kernel, by decide +kernel, by decide +kernel⟩
set_option maxRecDepth 100000 in
theorem ce_Rows_wantsAttention : mm_Ce y_Rows_wantsAttention := ⟨by decide, m_505, rfl, m_14, by decide +kernel, by decide +kernel, by decide +kernel⟩
set_option maxRecDepth 100000 in
theorem ce_Serial_wantsAttention : mm_Ce y_Serial_wantsAttention := ⟨by decide, m_508, rfl, m_13, by decide +kernel, by decide +kernel, by decide +kernel⟩
set_option maxRecDepth 100000 in
theorem ce_Timer_wantsAttention : mm_Ce y_Timer_wantsAttention := ⟨by decide, m_511, rfl, m_12, by decide +kernel, by decide +kernel, by decide +kernel⟩
set_option maxRecDepth 100000 in
theorem ce_Part_wantsAttention : mm_Ce y_Part_wantsAttention := ⟨by decide, m_512, rfl, m_10, by decide +kernel, by decide +kernel, by decide +kernel⟩
set_option maxRecDepth 100000 in
theorem ce_Lines_follow : mm_Ce y_Lines_follow := ⟨by decide, m_516, rfl, m_2, by decide +kernel, by decide +kernel, by decide +kernel⟩
set_option maxRecDepth 100000 in
theorem ce_Counts_look : mm_Ce y_Counts_look := ⟨by decide, m_523, rfl, m_15, by decide +kernel, by decide +kernel, by decide +kernel⟩
set_option maxRecDepth 100000 in
theorem ce_Rows_look : mm_Ce y_Rows_look := ⟨by decide, m_526, rfl, m_14, by decide +kernel, by decide +kernel, by decide +kernel⟩
set_option maxRecDepth 100000 in
theorem ce_Rows_inWindow : mm_Ce y_Rows_inWindow := ⟨by decide, m_530, rfl, m_14, by decide +kernel, by decide +kernel, by decide +kernel⟩
set_option maxRecDepth 100000 in
theorem ce_Serial_look : mm_Ce y_Serial_look := ⟨by decide, m_533, rfl, m_13, by decide +kernel, by decide +kernel, by decide +kernel⟩
set_option maxRecDepth 100000 in
theorem ce_Serial_nextCome : mm_Ce y_Serial_nextCome := ⟨by decide, m_537, rfl, m_13, by decide +kernel, by decide +kernel, by decide +kernel⟩
set_option maxRecDepth 100000 in
theorem ce_Timer_look : mm_Ce y_Timer_look := ⟨by decide, m_540, rfl, m_12, by decide +kernel, by decide +kernel, by decide +kernel⟩
set_option maxRecDepth 100000 in
theorem ce_Law_write : mm_Ce y_Law_write := ⟨by decide, m_543, rfl, m_0, by decide +kernel, by decide +kernel, by decide +kernel⟩
set_option maxRecDepth 100000 in
theorem ce_SP_write : mm_Ce y_SP_write := ⟨by decide, m_547, rfl, m_1, by decide +kernel, by decide +kernel, by decide +kernel⟩
set_option maxRecDepth 100000 in
theorem ce_Cells_refusesWrites : mm_Ce y_Cells_refusesWrites := ⟨by decide, m_553, rfl, m_11, by decide +kernel, by decide +kernel, by decide +kernel⟩
set_option maxRecDepth 100000 in
theorem ce_Part_refusesWrites : mm_Ce y_Part_refusesWrites := ⟨by decide, m_558, rfl, m_10, by decide +kernel, by decide +kernel, by decide +kernel⟩
set_option maxRecDepth 100000 in
theorem ce_Counts_put : mm_Ce y_Counts_put := ⟨by decide, m_566, rfl, m_15, by decide +kernel, by decide +kernel, by decide +kernel⟩
set_option maxRecDepth 100000 in
theorem ce_Rows_put : mm_Ce y_Rows_put := ⟨by decide, m_569, rfl, m_14, by decide +kernel, by decide +kernel, by decide +kernel⟩
set_option maxRecDepth 100000 in
theorem ce_Rows_begin : mm_Ce y_Rows_begin := ⟨by decide, m_573, rfl, m_14, by decide +kernel, by decide +kernel, by decide +kernel⟩
set_option maxRecDepth 100000 in
theorem ce_Serial_put : mm_Ce y_Serial_put := ⟨by decide, m_576, rfl, m_13, by decide +kernel, by decide +kernel, by decide +kernel⟩
set_option maxRecDepth 100000 in
theorem ce_Timer_put : mm_Ce y_Timer_put := ⟨by decide, m_579, rfl, m_12, by decide +kernel, by decide +kernel, by decide +kernel⟩
set_option maxRecDepth 100000 in
theorem ce_Law_step : mm_Ce y_Law_step := ⟨by decide, m_582, rfl, m_0, by decide +kernel, by decide +kernel, by decide +kernel⟩
set_option maxRecDepth 100000 in
theorem ce_SP_step : mm_Ce y_SP_step := ⟨by decide, m_586, rfl, m_1, by decide +kernel, by decide +kernel, by decide +kernel⟩
set_option maxRecDepth 100000 in
theorem ce_Law_receive : mm_Ce y_Law_receive := ⟨by decide, m_590, rfl, m_0, by decide +kernel, by decide +kernel, by decide +kernel⟩
set_option maxRecDepth 100000 in
theorem ce_SP_receive : mm_Ce y_SP_receive := ⟨by decide, m_594, rfl, m_1, by decide +kernel, by decide +kernel, by decide +kernel⟩
set_option maxRecDepth 100000 in
theorem ce_SP_serialAt : mm_Ce y_SP_serialAt := ⟨by decide, m_598, rfl, m_1, by decide +kernel, by decide +kernel, by decide +kernel⟩
set_option maxRecDepth 100000 in
theorem ce_Serial_isFull : mm_Ce y_Serial_isFull := ⟨by decide, m_603, rfl, m_13, by decide +kernel, by decide +kernel, by decide +kernel⟩
set_option maxRecDepth 100000 in
theorem ce_Serial_accept : mm_Ce y_Serial_accept := ⟨by decide, m_608, rfl, m_13, by decide +kernel, by decide +kernel, by decide +kernel⟩
set_option maxRecDepth 100000 in
theorem ce_Law_sent : mm_Ce y_Law_sent := ⟨by decide, m_611, rfl, m_0, by decide +kernel, by decide +kernel, by decide +kernel⟩
set_option maxRecDepth 100000 in
theorem ce_SP_sent : mm_Ce y_SP_sent := ⟨by decide, m_615, rfl, m_1, by decide +kernel, by decide +kernel, by decide +kernel⟩
set_option maxRecDepth 100000 in
theorem ce_Serial_goneKept : mm_Ce y_Serial_goneKept := ⟨by decide, m_619, rfl, m_13, by decide +kernel, by decide +kernel, by decide +kernel⟩
set_option maxRecDepth 100000 in
theorem ce_Serial_goneAt : mm_Ce y_Serial_goneAt := ⟨by decide, m_627, rfl, m_13, by decide +kernel, by decide +kernel, by decide +kernel⟩
set_option maxRecDepth 100000 in
theorem ce_Law_line : mm_Ce y_Law_line := ⟨by decide, m_631, rfl, m_0, by decide +kernel, by decide +kernel, by decide +kernel⟩
set_option maxRecDepth 100000 in
theorem ce_SP_line : mm_Ce y_SP_line := ⟨by decide, m_635, rfl, m_1, by decide +kernel, by decide +kernel, by decide +kernel⟩
set_option maxRecDepth 100000 in
theorem ce_Lines_greatest : mm_Ce y_Lines_greatest := ⟨by decide, m_639, rfl, m_2, by decide +kernel, by decide +kernel, by decide +kernel⟩
set_option maxRecDepth 100000 in
theorem ce_Lines_change : mm_Ce y_Lines_change := ⟨by decide, m_644, rfl, m_2, by decide +kernel, by decide +kernel, by decide +kernel⟩
set_option maxRecDepth 100000 in
theorem ce_Lines_changeWay : mm_Ce y_Lines_changeWay := ⟨by decide, m_648, rfl, m_2, by decide +kernel, by decide +kernel, by decide +kernel⟩
set_option maxRecDepth 100000 in
theorem ce_Lines_changeRank : mm_Ce y_Lines_changeRank := ⟨by decide, m_653, rfl, m_2, by decide +kernel, by decide +kernel, by decide +kernel⟩
set_option maxRecDepth 100000 in
theorem ce_Lines_changeHidden : mm_Ce y_Lines_changeHidden := ⟨by decide, m_657, rfl, m_2, by decide +kernel, by decide +kernel, by decide +kernel⟩
set_option maxRecDepth 100000 in
theorem ce_Law_asks : mm_Ce y_Law_asks := ⟨by decide, m_660, rfl, m_0, by decide +kernel, by decide +kernel, by decide +kernel⟩
set_option maxRecDepth 100000 in
theorem ce_SP_asks : mm_Ce y_SP_asks := ⟨by decide, m_664, rfl, m_1, by decide +kernel, by decide +kernel, by decide +kernel⟩
set_option maxRecDepth 100000 in
theorem ce_Model_init : mm_Ce y_Model_init := ⟨by decide, m_669, rfl, m_3, by decide +kernel, by decide +kernel, by decide +kernel⟩
set_option maxRecDepth 100000 in
theorem ce_Model_thrown : mm_Ce y_Model_thrown := ⟨by decide, m_751, rfl, m_3, by decide +kernel, by decide +kernel, by decide +kernel⟩
set_option maxRecDepth 100000 in
theorem ce_Model_part : mm_Ce y_Model_part := ⟨by decide, m_755, rfl, m_3, by decide +kernel, by decide +kernel, by decide +kernel⟩
set_option maxRecDepth 100000 in
theorem ce_Model_within : mm_Ce y_Model_within := ⟨by decide, m_758, rfl, m_3, by decide +kernel, by decide +kernel, by decide +kernel⟩
set_option maxRecDepth 100000 in
theorem ce_Model_sizeOf : mm_Ce y_Model_sizeOf := ⟨by decide, m_761, rfl, m_3, by decide +kernel, by decide +kernel, by decide +kernel⟩
set_option maxRecDepth 100000 in
theorem ce_Model_fail : mm_Ce y_Model_fail := ⟨by decide, m_766, rfl, m_3, by decide +kernel, by decide +kernel, by decide +kernel⟩
set_option maxRecDepth 100000 in
theorem ce_Model_load : mm_Ce y_Model_load := ⟨by decide, m_770, rfl, m_3, by decide +kernel, by decide +kernel, by decide +kernel⟩
set_option maxRecDepth 100000 in
theorem ce_Model_partAt : mm_Ce y_Model_partAt := ⟨by decide, m_774, rfl, m_3, by decide +kernel, by decide +kernel, by decide +kernel⟩
set_option maxRecDepth 100000 in
theorem ce_Model_step : mm_Ce y_Model_step := ⟨by decide, m_778, rfl, m_3, by decide +kernel, by decide +kernel, by decide +kernel⟩
set_option maxRecDepth 100000 in
theorem ce_Model_stepOnce : mm_Ce y_Model_stepOnce := ⟨by decide, m_782, rfl, m_3, by decide +kernel, by decide +kernel, by decide +kernel⟩
set_option maxRecDepth 100000 in
theorem ce_Model_timerStep : mm_Ce y_Model_timerStep := ⟨by decide, m_786, rfl, m_3, by decide +kernel, by decide +kernel, by decide +kernel⟩
set_option maxRecDepth 100000 in
theorem ce_Model_resetAll : mm_Ce y_Model_resetAll := ⟨by decide, m_790, rfl, m_3, by decide +kernel, by decide +kernel, by decide +kernel⟩
set_option maxRecDepth 100000 in
theorem ce_Model_sendStep : mm_Ce y_Model_sendStep := ⟨by decide, m_794, rfl, m_3, by decide +kernel, by decide +kernel, by decide +kernel⟩
set_option maxRecDepth 100000 in
theorem ce_Model_rowStep : mm_Ce y_Model_rowStep := ⟨by decide, m_798, rfl, m_3, by decide +kernel, by decide +kernel, by decide +kernel⟩
set_option maxRecDepth 100000 in
theorem ce_Model_lookAtLines : mm_Ce y_Model_lookAtLines := ⟨by decide, m_802, rfl, m_3, by decide +kernel, by decide +kernel, by decide +kernel⟩
set_option maxRecDepth 100000 in
theorem ce_Model_asksNow : mm_Ce y_Model_asksNow := ⟨by decide, m_806, rfl, m_3, by decide +kernel, by decide +kernel, by decide +kernel⟩
set_option maxRecDepth 100000 in
theorem ce_Model_read : mm_Ce y_Model_read := ⟨by decide, m_810, rfl, m_3, by decide +kernel, by decide +kernel, by decide +kernel⟩
set_option maxRecDepth 100000 in
theorem ce_Model_countAll : mm_Ce y_Model_countAll := ⟨by decide, m_815, rfl, m_3, by decide +kernel, by decide +kernel, by decide +kernel⟩
set_option maxRecDepth 100000 in
theorem ce_Model_waitFor : mm_Ce y_Model_waitFor := ⟨by decide, m_819, rfl, m_3, by decide +kernel, by decide +kernel, by decide +kernel⟩
set_option maxRecDepth 100000 in
theorem ce_Model_takeIn : mm_Ce y_Model_takeIn := ⟨by decide, m_823, rfl, m_3, by decide +kernel, by decide +kernel, by decide +kernel⟩
set_option maxRecDepth 100000 in
theorem ce_Model_write : mm_Ce y_Model_write := ⟨by decide, m_827, rfl, m_3, by decide +kernel, by decide +kernel, by decide +kernel⟩
set_option maxRecDepth 100000 in
theorem ce_Model_writeTimer : mm_Ce y_Model_writeTimer := ⟨by decide, m_831, rfl, m_3, by decide +kernel, by decide +kernel, by decide +kernel⟩
set_option maxRecDepth 100000 in
theorem ce_Model_writeSerial : mm_Ce y_Model_writeSerial := ⟨by decide, m_835, rfl, m_3, by decide +kernel, by decide +kernel, by decide +kernel⟩
set_option maxRecDepth 100000 in
theorem ce_Model_writeRows : mm_Ce y_Model_writeRows := ⟨by decide, m_839, rfl, m_3, by decide +kernel, by decide +kernel, by decide +kernel⟩
set_option maxRecDepth 100000 in
theorem ce_Model_receive : mm_Ce y_Model_receive := ⟨by decide, m_843, rfl, m_3, by decide +kernel, by decide +kernel, by decide +kernel⟩
set_option maxRecDepth 100000 in
theorem ce_Model_isSerial : mm_Ce y_Model_isSerial := ⟨by decide, m_847, rfl, m_3, by decide +kernel, by decide +kernel, by decide +kernel⟩
set_option maxRecDepth 100000 in
theorem ce_Model_sent : mm_Ce y_Model_sent := ⟨by decide, m_851, rfl, m_3, by decide +kernel, by decide +kernel, by decide +kernel⟩
set_option maxRecDepth 100000 in
theorem ce_Model_line : mm_Ce y_Model_line := ⟨by decide, m_855, rfl, m_3, by decide +kernel, by decide +kernel, by decide +kernel⟩
set_option maxRecDepth 100000 in
theorem ce_Model_asks : mm_Ce y_Model_asks := ⟨by decide, m_859, rfl, m_3, by decide +kernel, by decide +kernel, by decide +kernel⟩
set_option maxRecDepth 100000 in
theorem ce_Model_isPending : mm_Ce y_Model_isPending := ⟨by decide, m_863, rfl, m_3, by decide +kernel, by decide +kernel, by decide +kernel⟩
set_option maxRecDepth 100000 in
theorem ce_Model_chosen : mm_Ce y_Model_chosen := ⟨by decide, m_867, rfl, m_3, by decide +kernel, by decide +kernel, by decide +kernel⟩
set_option maxRecDepth 100000 in
theorem ce_Model_choose : mm_Ce y_Model_choose := ⟨by decide, m_871, rfl, m_3, by decide +kernel, by decide +kernel, by decide +kernel⟩
set_option maxRecDepth 100000 in
theorem ce_Model_take : mm_Ce y_Model_take := ⟨by decide, m_875, rfl, m_3, by decide +kernel, by decide +kernel, by decide +kernel⟩
set_option maxRecDepth 100000 in
theorem ce_Model_reset : mm_Ce y_Model_reset := ⟨by decide, m_879, rfl, m_3, by decide +kernel, by decide +kernel, by decide +kernel⟩
set_option maxRecDepth 100000 in
theorem ce_Model_count : mm_Ce y_Model_count := ⟨by decide, m_883, rfl, m_3, by decide +kernel, by decide +kernel, by decide +kernel⟩
set_option maxRecDepth 100000 in
theorem cl_SP : mm_Cl 0 "SystemParts" T_SP 6 := by
  refine ⟨rfl, fun w hw => ?_⟩
  obtain ⟨k, hk, rfl⟩ := List.mem_map.mp hw
  have hk := List.mem_range.mp hk
  match k, hk with
  | 0, _ => exact ⟨m_59, rfl⟩
  | 1, _ => exact ⟨m_61, rfl⟩
  | 2, _ => exact ⟨m_63, rfl⟩
  | 3, _ => exact ⟨m_65, rfl⟩
  | 4, _ => exact ⟨m_67, rfl⟩
  | 5, _ => exact ⟨m_69, rfl⟩
set_option maxRecDepth 100000 in
theorem ty_SP : mm_Ty T_SP 6 tt_SP := ⟨by decide +kernel, by decide +kernel⟩
set_option maxRecDepth 100000 in
theorem cl_Lines : mm_Cl 1 "SystemParts$Lines" T_Lines 5 := by
  refine ⟨rfl, fun w hw => ?_⟩
  obtain ⟨k, hk, rfl⟩ := List.mem_map.mp hw
  have hk := List.mem_range.mp hk
  match k, hk with
  | 0, _ => exact ⟨m_41, rfl⟩
  | 1, _ => exact ⟨m_43, rfl⟩
  | 2, _ => exact ⟨m_45, rfl⟩
  | 3, _ => exact ⟨m_47, rfl⟩
  | 4, _ => exact ⟨m_49, rfl⟩
set_option maxRecDepth 100000 in
theorem ty_Lines : mm_Ty T_Lines 5 tt_Lines := ⟨by decide +kernel, by decide +kernel⟩
set_option maxRecDepth 100000 in
theorem cl_Seat : mm_Cl 2 "SystemParts$Seat" T_Seat 4 := by
  refine ⟨rfl, fun w hw => ?_⟩
  obtain ⟨k, hk, rfl⟩ := List.mem_map.mp hw
  have hk := List.mem_range.mp hk
  match k, hk with
  | 0, _ => exact ⟨m_260, rfl⟩
  | 1, _ => exact ⟨m_262, rfl⟩
  | 2, _ => exact ⟨m_264, rfl⟩
  | 3, _ => exact ⟨m_266, rfl⟩
set_option maxRecDepth 100000 in
theorem ty_Seat : mm_Ty T_Seat 4 tt_Seat := ⟨by decide +kernel, by decide +kernel⟩
set_option maxRecDepth 100000 in
theorem cl_Cells : mm_Cl 3 "SystemParts$Cells" T_Cells 3 := by
  refine ⟨rfl, fun w hw => ?_⟩
  obtain ⟨k, hk, rfl⟩ := List.mem_map.mp hw
  have hk := List.mem_range.mp hk
  match k, hk with
  | 0, _ => exact ⟨m_287, rfl⟩
  | 1, _ => exact ⟨m_289, rfl⟩
  | 2, _ => exact ⟨m_291, rfl⟩
set_option maxRecDepth 100000 in
theorem ty_Cells : mm_Ty T_Cells 3 tt_Cells := ⟨by decide +kernel, by decide +kernel⟩
set_option maxRecDepth 100000 in
theorem cl_Timer : mm_Cl 4 "SystemParts$Timer" T_Timer 5 := by
  refine ⟨rfl, fun w hw => ?_⟩
  obtain ⟨k, hk, rfl⟩ := List.mem_map.mp hw
  have hk := List.mem_range.mp hk
  match k, hk with
  | 0, _ => exact ⟨m_304, rfl⟩
  | 1, _ => exact ⟨m_306, rfl⟩
  | 2, _ => exact ⟨m_308, rfl⟩
  | 3, _ => exact ⟨m_310, rfl⟩
  | 4, _ => exact ⟨m_312, rfl⟩
set_option maxRecDepth 100000 in
theorem ty_Timer : mm_Ty T_Timer 5 tt_Timer := ⟨by decide +kernel, by decide +kernel⟩
set_option maxRecDepth 100000 in
theorem cl_Serial : mm_Cl 5 "SystemParts$Serial" T_Serial 9 := by
  refine ⟨rfl, fun w hw => ?_⟩
  obtain ⟨k, hk, rfl⟩ := List.mem_map.mp hw
  have hk := List.mem_range.mp hk
  match k, hk with
  | 0, _ => exact ⟨m_329, rfl⟩
  | 1, _ => exact ⟨m_331, rfl⟩
  | 2, _ => exact ⟨m_333, rfl⟩
  | 3, _ => exact ⟨m_335, rfl⟩
  | 4, _ => exact ⟨m_337, rfl⟩
  | 5, _ => exact ⟨m_339, rfl⟩
  | 6, _ => exact ⟨m_341, rfl⟩
  | 7, _ => exact ⟨m_343, rfl⟩
  | 8, _ => exact ⟨m_345, rfl⟩
set_option maxRecDepth 100000 in
theorem ty_Serial : mm_Ty T_Serial 9 tt_Serial := ⟨by decide +kernel, by decide +kernel⟩
set_option maxRecDepth 100000 in
theorem cl_Rows : mm_Cl 6 "SystemParts$Rows" T_Rows 8 := by
  refine ⟨rfl, fun w hw => ?_⟩
  obtain ⟨k, hk, rfl⟩ := List.mem_map.mp hw
  have hk := List.mem_range.mp hk
  match k, hk with
  | 0, _ => exact ⟨m_360, rfl⟩
  | 1, _ => exact ⟨m_362, rfl⟩
  | 2, _ => exact ⟨m_364, rfl⟩
  | 3, _ => exact ⟨m_366, rfl⟩
  | 4, _ => exact ⟨m_368, rfl⟩
  | 5, _ => exact ⟨m_370, rfl⟩
  | 6, _ => exact ⟨m_372, rfl⟩
  | 7, _ => exact ⟨m_374, rfl⟩
set_option maxRecDepth 100000 in
theorem ty_Rows : mm_Ty T_Rows 8 tt_Rows := ⟨by decide +kernel, by decide +kernel⟩
set_option maxRecDepth 100000 in
theorem cl_Counts : mm_Cl 7 "SystemParts$Counts" T_Counts 2 := by
  refine ⟨rfl, fun w hw => ?_⟩
  obtain ⟨k, hk, rfl⟩ := List.mem_map.mp hw
  have hk := List.mem_range.mp hk
  match k, hk with
  | 0, _ => exact ⟨m_383, rfl⟩
  | 1, _ => exact ⟨m_385, rfl⟩
set_option maxRecDepth 100000 in
theorem ty_Counts : mm_Ty T_Counts 2 tt_Counts := ⟨by decide +kernel, by decide +kernel⟩
set_option maxRecDepth 100000 in
theorem cl_Model : mm_Cl 8 "SystemPartsModel" T_Model 25 := by
  refine ⟨rfl, fun w hw => ?_⟩
  obtain ⟨k, hk, rfl⟩ := List.mem_map.mp hw
  have hk := List.mem_range.mp hk
  match k, hk with
  | 0, _ => exact ⟨m_696, rfl⟩
  | 1, _ => exact ⟨m_698, rfl⟩
  | 2, _ => exact ⟨m_700, rfl⟩
  | 3, _ => exact ⟨m_702, rfl⟩
  | 4, _ => exact ⟨m_704, rfl⟩
  | 5, _ => exact ⟨m_706, rfl⟩
  | 6, _ => exact ⟨m_708, rfl⟩
  | 7, _ => exact ⟨m_710, rfl⟩
  | 8, _ => exact ⟨m_712, rfl⟩
  | 9, _ => exact ⟨m_714, rfl⟩
  | 10, _ => exact ⟨m_716, rfl⟩
  | 11, _ => exact ⟨m_718, rfl⟩
  | 12, _ => exact ⟨m_720, rfl⟩
  | 13, _ => exact ⟨m_722, rfl⟩
  | 14, _ => exact ⟨m_724, rfl⟩
  | 15, _ => exact ⟨m_726, rfl⟩
  | 16, _ => exact ⟨m_728, rfl⟩
  | 17, _ => exact ⟨m_730, rfl⟩
  | 18, _ => exact ⟨m_732, rfl⟩
  | 19, _ => exact ⟨m_734, rfl⟩
  | 20, _ => exact ⟨m_736, rfl⟩
  | 21, _ => exact ⟨m_738, rfl⟩
  | 22, _ => exact ⟨m_740, rfl⟩
  | 23, _ => exact ⟨m_742, rfl⟩
  | 24, _ => exact ⟨m_744, rfl⟩
  | k + 25, h9 => exact absurd h9 (by omega)
set_option maxRecDepth 100000 in
theorem ty_Model : mm_Ty T_Model 25 tt_Model := ⟨by decide +kernel, by decide +kernel⟩
theorem fl_Lines_11_Lines : mm_Fl "SystemParts$Lines" 11 T_Lines 0 := ⟨"SystemParts$Lines", Or.inl m_35, Or.inl rfl⟩
theorem fl_Lines_15_Lines : mm_Fl "SystemParts$Lines" 15 T_Lines 1 := ⟨"SystemParts$Lines", Or.inl m_36, Or.inl rfl⟩
theorem fl_Lines_18_Lines : mm_Fl "SystemParts$Lines" 18 T_Lines 2 := ⟨"SystemParts$Lines", Or.inl m_37, Or.inl rfl⟩
theorem fl_Lines_22_Lines : mm_Fl "SystemParts$Lines" 22 T_Lines 3 := ⟨"SystemParts$Lines", Or.inl m_38, Or.inl rfl⟩
theorem fl_SP_162_Lines : mm_Fl "SystemParts" 162 T_Lines 3 := ⟨"SystemParts$Lines", Or.inr ⟨"SystemParts", m_39⟩, Or.inl rfl⟩
theorem fl_Lines_25_Lines : mm_Fl "SystemParts$Lines" 25 T_Lines 4 := ⟨"SystemParts$Lines", Or.inl m_40, Or.inl rfl⟩
theorem fl_SP_11_SP : mm_Fl "SystemParts" 11 T_SP 0 := ⟨"SystemParts", Or.inl m_53, Or.inl rfl⟩
theorem fl_SP_18_SP : mm_Fl "SystemParts" 18 T_SP 1 := ⟨"SystemParts", Or.inl m_54, Or.inl rfl⟩
theorem fl_SP_22_SP : mm_Fl "SystemParts" 22 T_SP 2 := ⟨"SystemParts", Or.inl m_55, Or.inl rfl⟩
theorem fl_SP_26_SP : mm_Fl "SystemParts" 26 T_SP 3 := ⟨"SystemParts", Or.inl m_56, Or.inl rfl⟩
theorem fl_SP_30_SP : mm_Fl "SystemParts" 30 T_SP 4 := ⟨"SystemParts", Or.inl m_57, Or.inl rfl⟩
theorem fl_SP_33_SP : mm_Fl "SystemParts" 33 T_SP 5 := ⟨"SystemParts", Or.inl m_58, Or.inl rfl⟩
theorem fl_Seat_7_Seat : mm_Fl "SystemParts$Seat" 7 T_Seat 0 := ⟨"SystemParts$Seat", Or.inl m_253, Or.inl rfl⟩
theorem fl_SP_79_Seat : mm_Fl "SystemParts" 79 T_Seat 0 := ⟨"SystemParts$Seat", Or.inl m_254, Or.inl rfl⟩
theorem fl_Cells_7_Seat : mm_Fl "SystemParts$Cells" 7 T_Seat 1 := ⟨"SystemParts$Seat", Or.inl m_255, Or.inl rfl⟩
theorem fl_Seat_13_Seat : mm_Fl "SystemParts$Seat" 13 T_Seat 1 := ⟨"SystemParts$Seat", Or.inl m_256, Or.inl rfl⟩
theorem fl_Seat_16_Seat : mm_Fl "SystemParts$Seat" 16 T_Seat 2 := ⟨"SystemParts$Seat", Or.inl m_257, Or.inl rfl⟩
theorem fl_SP_220_Seat : mm_Fl "SystemParts" 220 T_Seat 2 := ⟨"SystemParts$Seat", Or.inl m_258, Or.inl rfl⟩
theorem fl_Seat_19_Seat : mm_Fl "SystemParts$Seat" 19 T_Seat 3 := ⟨"SystemParts$Seat", Or.inl m_259, Or.inl rfl⟩
theorem fl_Cells_13_Cells : mm_Fl "SystemParts$Cells" 13 T_Cells 0 := ⟨"SystemParts$Cells", Or.inl m_281, Or.inl rfl⟩
theorem fl_Cells_19_Cells : mm_Fl "SystemParts$Cells" 19 T_Cells 1 := ⟨"SystemParts$Cells", Or.inl m_282, Or.inl rfl⟩
theorem fl_Part_7_Cells : mm_Fl "SystemParts$Part" 7 T_Cells 2 := ⟨"SystemParts$Part", Or.inl m_283, Or.inl rfl⟩
theorem fl_Part_7_Timer : mm_Fl "SystemParts$Part" 7 T_Timer 4 := ⟨"SystemParts$Part", Or.inl m_283, Or.inl rfl⟩
theorem fl_Part_7_Serial : mm_Fl "SystemParts$Part" 7 T_Serial 8 := ⟨"SystemParts$Part", Or.inl m_283, Or.inl rfl⟩
theorem fl_Part_7_Rows : mm_Fl "SystemParts$Part" 7 T_Rows 7 := ⟨"SystemParts$Part", Or.inl m_283, Or.inl rfl⟩
theorem fl_Part_7_Counts : mm_Fl "SystemParts$Part" 7 T_Counts 1 := ⟨"SystemParts$Part", Or.inl m_283, Or.inl rfl⟩
theorem fl_SP_75_Cells : mm_Fl "SystemParts" 75 T_Cells 2 := ⟨"SystemParts$Cells", Or.inl m_284, Or.inr m_285⟩
theorem fl_SP_99_Cells : mm_Fl "SystemParts" 99 T_Cells 2 := ⟨"SystemParts$Part", Or.inl m_286, Or.inl rfl⟩
theorem fl_SP_99_Timer : mm_Fl "SystemParts" 99 T_Timer 4 := ⟨"SystemParts$Part", Or.inl m_286, Or.inl rfl⟩
theorem fl_SP_99_Serial : mm_Fl "SystemParts" 99 T_Serial 8 := ⟨"SystemParts$Part", Or.inl m_286, Or.inl rfl⟩
theorem fl_SP_99_Rows : mm_Fl "SystemParts" 99 T_Rows 7 := ⟨"SystemParts$Part", Or.inl m_286, Or.inl rfl⟩
theorem fl_SP_99_Counts : mm_Fl "SystemParts" 99 T_Counts 1 := ⟨"SystemParts$Part", Or.inl m_286, Or.inl rfl⟩
theorem fl_Timer_7_Timer : mm_Fl "SystemParts$Timer" 7 T_Timer 0 := ⟨"SystemParts$Timer", Or.inl m_300, Or.inl rfl⟩
theorem fl_Timer_13_Timer : mm_Fl "SystemParts$Timer" 13 T_Timer 1 := ⟨"SystemParts$Timer", Or.inl m_301, Or.inl rfl⟩
theorem fl_Timer_16_Timer : mm_Fl "SystemParts$Timer" 16 T_Timer 2 := ⟨"SystemParts$Timer", Or.inl m_302, Or.inl rfl⟩
theorem fl_Timer_19_Timer : mm_Fl "SystemParts$Timer" 19 T_Timer 3 := ⟨"SystemParts$Timer", Or.inl m_303, Or.inl rfl⟩
theorem fl_Serial_9_Serial : mm_Fl "SystemParts$Serial" 9 T_Serial 0 := ⟨"SystemParts$Serial", Or.inl m_319, Or.inl rfl⟩
theorem fl_Serial_13_Serial : mm_Fl "SystemParts$Serial" 13 T_Serial 1 := ⟨"SystemParts$Serial", Or.inl m_320, Or.inl rfl⟩
theorem fl_Serial_17_Serial : mm_Fl "SystemParts$Serial" 17 T_Serial 2 := ⟨"SystemParts$Serial", Or.inl m_321, Or.inl rfl⟩
theorem fl_SP_232_Serial : mm_Fl "SystemParts" 232 T_Serial 2 := ⟨"SystemParts$Serial", Or.inr ⟨"SystemParts", m_322⟩, Or.inl rfl⟩
theorem fl_Serial_20_Serial : mm_Fl "SystemParts$Serial" 20 T_Serial 3 := ⟨"SystemParts$Serial", Or.inl m_323, Or.inl rfl⟩
theorem fl_Serial_23_Serial : mm_Fl "SystemParts$Serial" 23 T_Serial 4 := ⟨"SystemParts$Serial", Or.inl m_324, Or.inl rfl⟩
theorem fl_SP_235_Serial : mm_Fl "SystemParts" 235 T_Serial 4 := ⟨"SystemParts$Serial", Or.inr ⟨"SystemParts", m_325⟩, Or.inl rfl⟩
theorem fl_Serial_26_Serial : mm_Fl "SystemParts$Serial" 26 T_Serial 5 := ⟨"SystemParts$Serial", Or.inl m_326, Or.inl rfl⟩
theorem fl_Serial_29_Serial : mm_Fl "SystemParts$Serial" 29 T_Serial 6 := ⟨"SystemParts$Serial", Or.inl m_327, Or.inl rfl⟩
theorem fl_Serial_32_Serial : mm_Fl "SystemParts$Serial" 32 T_Serial 7 := ⟨"SystemParts$Serial", Or.inl m_328, Or.inl rfl⟩
theorem fl_Rows_9_Rows : mm_Fl "SystemParts$Rows" 9 T_Rows 0 := ⟨"SystemParts$Rows", Or.inl m_353, Or.inl rfl⟩
theorem fl_Rows_13_Rows : mm_Fl "SystemParts$Rows" 13 T_Rows 1 := ⟨"SystemParts$Rows", Or.inl m_354, Or.inl rfl⟩
theorem fl_Rows_16_Rows : mm_Fl "SystemParts$Rows" 16 T_Rows 2 := ⟨"SystemParts$Rows", Or.inl m_355, Or.inl rfl⟩
theorem fl_Rows_20_Rows : mm_Fl "SystemParts$Rows" 20 T_Rows 3 := ⟨"SystemParts$Rows", Or.inl m_356, Or.inl rfl⟩
theorem fl_Rows_23_Rows : mm_Fl "SystemParts$Rows" 23 T_Rows 4 := ⟨"SystemParts$Rows", Or.inl m_357, Or.inl rfl⟩
theorem fl_Rows_26_Rows : mm_Fl "SystemParts$Rows" 26 T_Rows 5 := ⟨"SystemParts$Rows", Or.inl m_358, Or.inl rfl⟩
theorem fl_Rows_29_Rows : mm_Fl "SystemParts$Rows" 29 T_Rows 6 := ⟨"SystemParts$Rows", Or.inl m_359, Or.inl rfl⟩
theorem fl_Counts_9_Counts : mm_Fl "SystemParts$Counts" 9 T_Counts 0 := ⟨"SystemParts$Counts", Or.inl m_382, Or.inl rfl⟩
theorem fl_Model_65_Model : mm_Fl "SystemPartsModel" 65 T_Model 0 := ⟨"SystemPartsModel", Or.inl m_671, Or.inl rfl⟩
theorem fl_Model_104_Model : mm_Fl "SystemPartsModel" 104 T_Model 1 := ⟨"SystemPartsModel", Or.inl m_672, Or.inl rfl⟩
theorem fl_Model_78_Model : mm_Fl "SystemPartsModel" 78 T_Model 2 := ⟨"SystemPartsModel", Or.inl m_673, Or.inl rfl⟩
theorem fl_Model_88_Model : mm_Fl "SystemPartsModel" 88 T_Model 3 := ⟨"SystemPartsModel", Or.inl m_674, Or.inl rfl⟩
theorem fl_Model_7_Model : mm_Fl "SystemPartsModel" 7 T_Model 4 := ⟨"SystemPartsModel", Or.inl m_675, Or.inl rfl⟩
theorem fl_Model_13_Model : mm_Fl "SystemPartsModel" 13 T_Model 5 := ⟨"SystemPartsModel", Or.inl m_676, Or.inl rfl⟩
theorem fl_Model_16_Model : mm_Fl "SystemPartsModel" 16 T_Model 6 := ⟨"SystemPartsModel", Or.inl m_677, Or.inl rfl⟩
theorem fl_Model_19_Model : mm_Fl "SystemPartsModel" 19 T_Model 7 := ⟨"SystemPartsModel", Or.inl m_678, Or.inl rfl⟩
theorem fl_Model_22_Model : mm_Fl "SystemPartsModel" 22 T_Model 8 := ⟨"SystemPartsModel", Or.inl m_679, Or.inl rfl⟩
theorem fl_Model_25_Model : mm_Fl "SystemPartsModel" 25 T_Model 9 := ⟨"SystemPartsModel", Or.inl m_680, Or.inl rfl⟩
theorem fl_Model_28_Model : mm_Fl "SystemPartsModel" 28 T_Model 10 := ⟨"SystemPartsModel", Or.inl m_681, Or.inl rfl⟩
theorem fl_Model_31_Model : mm_Fl "SystemPartsModel" 31 T_Model 11 := ⟨"SystemPartsModel", Or.inl m_682, Or.inl rfl⟩
theorem fl_Model_34_Model : mm_Fl "SystemPartsModel" 34 T_Model 12 := ⟨"SystemPartsModel", Or.inl m_683, Or.inl rfl⟩
theorem fl_Model_37_Model : mm_Fl "SystemPartsModel" 37 T_Model 13 := ⟨"SystemPartsModel", Or.inl m_684, Or.inl rfl⟩
theorem fl_Model_40_Model : mm_Fl "SystemPartsModel" 40 T_Model 14 := ⟨"SystemPartsModel", Or.inl m_685, Or.inl rfl⟩
theorem fl_Model_43_Model : mm_Fl "SystemPartsModel" 43 T_Model 15 := ⟨"SystemPartsModel", Or.inl m_686, Or.inl rfl⟩
theorem fl_Model_46_Model : mm_Fl "SystemPartsModel" 46 T_Model 16 := ⟨"SystemPartsModel", Or.inl m_687, Or.inl rfl⟩
theorem fl_Model_49_Model : mm_Fl "SystemPartsModel" 49 T_Model 17 := ⟨"SystemPartsModel", Or.inl m_688, Or.inl rfl⟩
theorem fl_Model_52_Model : mm_Fl "SystemPartsModel" 52 T_Model 18 := ⟨"SystemPartsModel", Or.inl m_689, Or.inl rfl⟩
theorem fl_Model_55_Model : mm_Fl "SystemPartsModel" 55 T_Model 19 := ⟨"SystemPartsModel", Or.inl m_690, Or.inl rfl⟩
theorem fl_Model_59_Model : mm_Fl "SystemPartsModel" 59 T_Model 20 := ⟨"SystemPartsModel", Or.inl m_691, Or.inl rfl⟩
theorem fl_Model_62_Model : mm_Fl "SystemPartsModel" 62 T_Model 21 := ⟨"SystemPartsModel", Or.inl m_692, Or.inl rfl⟩
theorem fl_Model_91_Model : mm_Fl "SystemPartsModel" 91 T_Model 22 := ⟨"SystemPartsModel", Or.inl m_693, Or.inl rfl⟩
theorem fl_Model_94_Model : mm_Fl "SystemPartsModel" 94 T_Model 23 := ⟨"SystemPartsModel", Or.inl m_694, Or.inl rfl⟩
theorem fl_Model_97_Model : mm_Fl "SystemPartsModel" 97 T_Model 24 := ⟨"SystemPartsModel", Or.inl m_695, Or.inl rfl⟩
set_option maxRecDepth 100000 in
theorem nc_Cells_Serial : Cond.not (.castable "SystemParts$Cells" "SystemParts$Serial") ∈ flatC (Jvm.Cond.and given_1 narrow_1) := by decide +kernel
set_option maxRecDepth 100000 in
theorem nc_Timer_Serial : Cond.not (.castable "SystemParts$Timer" "SystemParts$Serial") ∈ flatC (Jvm.Cond.and given_1 narrow_1) := by decide +kernel
set_option maxRecDepth 100000 in
theorem nc_Rows_Serial : Cond.not (.castable "SystemParts$Rows" "SystemParts$Serial") ∈ flatC (Jvm.Cond.and given_1 narrow_1) := by decide +kernel
set_option maxRecDepth 100000 in
theorem nc_Counts_Serial : Cond.not (.castable "SystemParts$Counts" "SystemParts$Serial") ∈ flatC (Jvm.Cond.and given_1 narrow_1) := by decide +kernel
set_option maxRecDepth 100000 in
theorem nc_Timer_Cells : Cond.not (.castable "SystemParts$Timer" "SystemParts$Cells") ∈ flatC (Jvm.Cond.and given_1 narrow_1) := by decide +kernel
set_option maxRecDepth 100000 in
theorem nc_Serial_Cells : Cond.not (.castable "SystemParts$Serial" "SystemParts$Cells") ∈ flatC (Jvm.Cond.and given_1 narrow_1) := by decide +kernel
set_option maxRecDepth 100000 in
theorem nc_Rows_Cells : Cond.not (.castable "SystemParts$Rows" "SystemParts$Cells") ∈ flatC (Jvm.Cond.and given_1 narrow_1) := by decide +kernel
set_option maxRecDepth 100000 in
theorem nc_Counts_Cells : Cond.not (.castable "SystemParts$Counts" "SystemParts$Cells") ∈ flatC (Jvm.Cond.and given_1 narrow_1) := by decide +kernel
set_option maxRecDepth 100000 in
theorem nc_Cells_Counts : Cond.not (.castable "SystemParts$Cells" "SystemParts$Counts") ∈ flatC (Jvm.Cond.and given_1 narrow_1) := by decide +kernel
set_option maxRecDepth 100000 in
theorem nc_Timer_Counts : Cond.not (.castable "SystemParts$Timer" "SystemParts$Counts") ∈ flatC (Jvm.Cond.and given_1 narrow_1) := by decide +kernel
set_option maxRecDepth 100000 in
theorem nc_Serial_Counts : Cond.not (.castable "SystemParts$Serial" "SystemParts$Counts") ∈ flatC (Jvm.Cond.and given_1 narrow_1) := by decide +kernel
set_option maxRecDepth 100000 in
theorem nc_Rows_Counts : Cond.not (.castable "SystemParts$Rows" "SystemParts$Counts") ∈ flatC (Jvm.Cond.and given_1 narrow_1) := by decide +kernel
set_option maxRecDepth 100000 in
theorem nc_IllegalArgumentException_UnsupportedOperationException : Cond.not (.castable "java/lang/IllegalArgumentException" "java/lang/UnsupportedOperationException") ∈ flatC (Jvm.Cond.and given_1 narrow_1) := by decide +kernel
set_option maxRecDepth 100000 in
theorem nc_IllegalArgumentException_IndexOutOfBoundsException : Cond.not (.castable "java/lang/IllegalArgumentException" "java/lang/IndexOutOfBoundsException") ∈ flatC (Jvm.Cond.and given_1 narrow_1) := by decide +kernel
set_option maxRecDepth 100000 in
theorem nc_IllegalArgumentException_IllegalStateException : Cond.not (.castable "java/lang/IllegalArgumentException" "java/lang/IllegalStateException") ∈ flatC (Jvm.Cond.and given_1 narrow_1) := by decide +kernel
set_option maxRecDepth 100000 in
theorem nc_UnsupportedOperationException_IllegalArgumentException : Cond.not (.castable "java/lang/UnsupportedOperationException" "java/lang/IllegalArgumentException") ∈ flatC (Jvm.Cond.and given_1 narrow_1) := by decide +kernel
set_option maxRecDepth 100000 in
theorem nc_UnsupportedOperationException_IndexOutOfBoundsException : Cond.not (.castable "java/lang/UnsupportedOperationException" "java/lang/IndexOutOfBoundsException") ∈ flatC (Jvm.Cond.and given_1 narrow_1) := by decide +kernel
set_option maxRecDepth 100000 in
theorem nc_UnsupportedOperationException_IllegalStateException : Cond.not (.castable "java/lang/UnsupportedOperationException" "java/lang/IllegalStateException") ∈ flatC (Jvm.Cond.and given_1 narrow_1) := by decide +kernel
set_option maxRecDepth 100000 in
theorem nc_IndexOutOfBoundsException_IllegalArgumentException : Cond.not (.castable "java/lang/IndexOutOfBoundsException" "java/lang/IllegalArgumentException") ∈ flatC (Jvm.Cond.and given_1 narrow_1) := by decide +kernel
set_option maxRecDepth 100000 in
theorem nc_IndexOutOfBoundsException_UnsupportedOperationException : Cond.not (.castable "java/lang/IndexOutOfBoundsException" "java/lang/UnsupportedOperationException") ∈ flatC (Jvm.Cond.and given_1 narrow_1) := by decide +kernel
set_option maxRecDepth 100000 in
theorem nc_IndexOutOfBoundsException_IllegalStateException : Cond.not (.castable "java/lang/IndexOutOfBoundsException" "java/lang/IllegalStateException") ∈ flatC (Jvm.Cond.and given_1 narrow_1) := by decide +kernel
set_option maxRecDepth 100000 in
theorem nc_IllegalStateException_IllegalArgumentException : Cond.not (.castable "java/lang/IllegalStateException" "java/lang/IllegalArgumentException") ∈ flatC (Jvm.Cond.and given_1 narrow_1) := by decide +kernel
set_option maxRecDepth 100000 in
theorem nc_IllegalStateException_UnsupportedOperationException : Cond.not (.castable "java/lang/IllegalStateException" "java/lang/UnsupportedOperationException") ∈ flatC (Jvm.Cond.and given_1 narrow_1) := by decide +kernel
set_option maxRecDepth 100000 in
theorem nc_IllegalStateException_IndexOutOfBoundsException : Cond.not (.castable "java/lang/IllegalStateException" "java/lang/IndexOutOfBoundsException") ∈ flatC (Jvm.Cond.and given_1 narrow_1) := by decide +kernel
set_option maxRecDepth 100000 in
theorem xs_ok : mm_Xs := ⟨m_189, m_191, m_4, by decide +kernel, by decide +kernel⟩
set_option maxRecDepth 100000 in
theorem xo_SP_part_54 : mm_Xo "SystemParts" 48 50 52 "no such part can lie there" ["java/lang/RuntimeException", "java/lang/Exception"] (mm_ex 0) := ⟨by decide +kernel, by decide +kernel, m_162, m_7, m_204, by decide +kernel, by decide +kernel⟩
set_option maxRecDepth 100000 in
theorem xo_SP_part_83 : mm_Xo "SystemParts" 55 57 59 "there are twelve parts" ["java/lang/RuntimeException", "java/lang/Exception"] (mm_ex 1) := ⟨by decide +kernel, by decide +kernel, m_231, m_8, m_240, by decide +kernel, by decide +kernel⟩
set_option maxRecDepth 100000 in
theorem xo_SP_load_50 : mm_Xo "SystemParts" 48 90 52 "no STORE or FIXED has the place" ["java/lang/RuntimeException", "java/lang/Exception"] (mm_ex 0) := ⟨by decide +kernel, by decide +kernel, m_162, m_7, m_406, by decide +kernel, by decide +kernel⟩
set_option maxRecDepth 100000 in
theorem xo_SP_write_18 : mm_Xo "SystemParts" 112 114 116 "a FIXED is not written" ["java/lang/RuntimeException", "java/lang/Exception"] (mm_ex 3) := ⟨by decide +kernel, by decide +kernel, m_444, m_17, m_559, by decide +kernel, by decide +kernel⟩
set_option maxRecDepth 100000 in
theorem xo_SP_step_12 : mm_Xo "SystemParts" 48 121 52 "steps are 1 to 1000" ["java/lang/RuntimeException", "java/lang/Exception"] (mm_ex 0) := ⟨by decide +kernel, by decide +kernel, m_162, m_7, m_587, by decide +kernel, by decide +kernel⟩
set_option maxRecDepth 100000 in
theorem xo_SP_receive_13 : mm_Xo "SystemParts" 55 135 59 "32 numbers are there to be read" ["java/lang/RuntimeException", "java/lang/Exception"] (mm_ex 1) := ⟨by decide +kernel, by decide +kernel, m_231, m_8, m_604, by decide +kernel, by decide +kernel⟩
set_option maxRecDepth 100000 in
theorem xo_SP_sent_18 : mm_Xo "SystemParts" 143 145 147 "no such number went out" ["java/lang/RuntimeException", "java/lang/Exception"] (mm_ex 2) := ⟨by decide +kernel, by decide +kernel, m_420, m_16, m_623, by decide +kernel, by decide +kernel⟩
set_option maxRecDepth 100000 in
theorem xo_SP_line_7 : mm_Xo "SystemParts" 143 151 147 "no such line" ["java/lang/RuntimeException", "java/lang/Exception"] (mm_ex 2) := ⟨by decide +kernel, by decide +kernel, m_420, m_16, m_636, by decide +kernel, by decide +kernel⟩
set_option maxRecDepth 100000 in
theorem xo_SP_line_29 : mm_Xo "SystemParts" 48 156 52 "a line has no such setting" ["java/lang/RuntimeException", "java/lang/Exception"] (mm_ex 0) := ⟨by decide +kernel, by decide +kernel, m_162, m_7, m_640, by decide +kernel, by decide +kernel⟩
set_option maxRecDepth 100000 in
theorem xo_SP_asks_7 : mm_Xo "SystemParts" 143 151 147 "no such line" ["java/lang/RuntimeException", "java/lang/Exception"] (mm_ex 2) := ⟨by decide +kernel, by decide +kernel, m_420, m_16, m_636, by decide +kernel, by decide +kernel⟩
set_option maxRecDepth 100000 in
theorem xo_SP_reachPart_7 : mm_Xo "SystemParts" 143 205 147 "no such place" ["java/lang/RuntimeException", "java/lang/Exception"] (mm_ex 2) := ⟨by decide +kernel, by decide +kernel, m_420, m_16, m_429, by decide +kernel, by decide +kernel⟩
set_option maxRecDepth 100000 in
theorem xo_SP_reachPart_32 : mm_Xo "SystemParts" 112 207 116 "no part has the place" ["java/lang/RuntimeException", "java/lang/Exception"] (mm_ex 3) := ⟨by decide +kernel, by decide +kernel, m_444, m_17, m_453, by decide +kernel, by decide +kernel⟩
set_option maxRecDepth 100000 in
theorem xo_SP_serialAt_34 : mm_Xo "SystemParts" 48 209 52 "the part is no SERIAL" ["java/lang/RuntimeException", "java/lang/Exception"] (mm_ex 0) := ⟨by decide +kernel, by decide +kernel, m_162, m_7, m_599, by decide +kernel, by decide +kernel⟩
