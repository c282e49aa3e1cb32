set_option maxRecDepth 100000 in
theorem mp_0 : Cond.selects "SystemParts" ⟨"SystemParts", "resetAll", "(I)V"⟩ ⟨"SystemParts", "resetAll", "(I)V"⟩ ∈ lw_tbl := List.mem_of_getElem? (i := 0) (by decide +kernel)
set_option maxRecDepth 100000 in
theorem mp_1 : Cond.selects "SystemParts" ⟨"SystemParts", "allWaiting", "()I"⟩ ⟨"SystemParts", "allWaiting", "()I"⟩ ∈ lw_tbl := List.mem_of_getElem? (i := 1) (by decide +kernel)
set_option maxRecDepth 100000 in
theorem mp_2 : Cond.selects "SystemParts" ⟨"SystemParts", "allGone", "()I"⟩ ⟨"SystemParts", "allGone", "()I"⟩ ∈ lw_tbl := List.mem_of_getElem? (i := 2) (by decide +kernel)
set_option maxRecDepth 100000 in
theorem mp_3 : Cond.selects "SystemParts" ⟨"SystemParts", "isFree", "(II)Z"⟩ ⟨"SystemParts", "isFree", "(II)Z"⟩ ∈ lw_tbl := List.mem_of_getElem? (i := 3) (by decide +kernel)
set_option maxRecDepth 100000 in
theorem mp_4 : Cond.selects "java/lang/Throwable" ⟨"java/lang/Throwable", "fillInStackTrace", "(I)Ljava/lang/Throwable;"⟩ ⟨"java/lang/Throwable", "fillInStackTrace", "(I)Ljava/lang/Throwable;"⟩ ∈ lw_tbl := List.mem_of_getElem? (i := 4) (by decide +kernel)
set_option maxRecDepth 100000 in
theorem mp_5 : Cond.selects "SystemParts" ⟨"SystemParts", "partWith", "(I)LSystemParts$Part;"⟩ ⟨"SystemParts", "partWith", "(I)LSystemParts$Part;"⟩ ∈ lw_tbl := List.mem_of_getElem? (i := 5) (by decide +kernel)
set_option maxRecDepth 100000 in
theorem mp_6 : Cond.selects "SystemParts" ⟨"SystemParts", "reachPart", "(I)LSystemParts$Part;"⟩ ⟨"SystemParts", "reachPart", "(I)LSystemParts$Part;"⟩ ∈ lw_tbl := List.mem_of_getElem? (i := 6) (by decide +kernel)
set_option maxRecDepth 100000 in
theorem mp_7 : Cond.selects "SystemParts" ⟨"SystemParts", "tallyOne", "(I)V"⟩ ⟨"SystemParts", "tallyOne", "(I)V"⟩ ∈ lw_tbl := List.mem_of_getElem? (i := 7) (by decide +kernel)
set_option maxRecDepth 100000 in
theorem mp_8 : Cond.selects "SystemParts" ⟨"SystemParts", "runSteps", "(I)Z"⟩ ⟨"SystemParts", "runSteps", "(I)Z"⟩ ∈ lw_tbl := List.mem_of_getElem? (i := 8) (by decide +kernel)
set_option maxRecDepth 100000 in
theorem mp_9 : Cond.selects "SystemParts" ⟨"SystemParts", "oneStep", "()Z"⟩ ⟨"SystemParts", "oneStep", "()Z"⟩ ∈ lw_tbl := List.mem_of_getElem? (i := 9) (by decide +kernel)
set_option maxRecDepth 100000 in
theorem mp_10 : Cond.selects "SystemParts$Rows" ⟨"SystemParts$Rows", "moveNumbers", "()V"⟩ ⟨"SystemParts$Rows", "moveNumbers", "()V"⟩ ∈ lw_tbl := List.mem_of_getElem? (i := 10) (by decide +kernel)
set_option maxRecDepth 100000 in
theorem mp_11 : Cond.selects "SystemParts" ⟨"SystemParts", "askingLines", "()I"⟩ ⟨"SystemParts", "askingLines", "()I"⟩ ∈ lw_tbl := List.mem_of_getElem? (i := 11) (by decide +kernel)
set_option maxRecDepth 100000 in
theorem mp_12 : Cond.selects "SystemParts$Rows" ⟨"SystemParts$Rows", "inWindow", "(I)Z"⟩ ⟨"SystemParts$Rows", "inWindow", "(I)Z"⟩ ∈ lw_tbl := List.mem_of_getElem? (i := 12) (by decide +kernel)
set_option maxRecDepth 100000 in
theorem mp_13 : Cond.selects "SystemParts$Serial" ⟨"SystemParts$Serial", "nextCome", "()I"⟩ ⟨"SystemParts$Serial", "nextCome", "()I"⟩ ∈ lw_tbl := List.mem_of_getElem? (i := 13) (by decide +kernel)
set_option maxRecDepth 100000 in
theorem mp_14 : Cond.selects "SystemParts$Rows" ⟨"SystemParts$Rows", "begin", "(I)V"⟩ ⟨"SystemParts$Rows", "begin", "(I)V"⟩ ∈ lw_tbl := List.mem_of_getElem? (i := 14) (by decide +kernel)
set_option maxRecDepth 100000 in
theorem mp_15 : Cond.selects "SystemParts" ⟨"SystemParts", "serialAt", "(I)LSystemParts$Serial;"⟩ ⟨"SystemParts", "serialAt", "(I)LSystemParts$Serial;"⟩ ∈ lw_tbl := List.mem_of_getElem? (i := 15) (by decide +kernel)
set_option maxRecDepth 100000 in
theorem mp_16 : Cond.selects "SystemParts$Lines" ⟨"SystemParts$Lines", "changeWay", "(II)I"⟩ ⟨"SystemParts$Lines", "changeWay", "(II)I"⟩ ∈ lw_tbl := List.mem_of_getElem? (i := 16) (by decide +kernel)
set_option maxRecDepth 100000 in
theorem mp_17 : Cond.selects "SystemParts$Lines" ⟨"SystemParts$Lines", "changeRank", "(II)I"⟩ ⟨"SystemParts$Lines", "changeRank", "(II)I"⟩ ∈ lw_tbl := List.mem_of_getElem? (i := 17) (by decide +kernel)
set_option maxRecDepth 100000 in
theorem mp_18 : Cond.selects "SystemParts$Lines" ⟨"SystemParts$Lines", "changeHidden", "(II)I"⟩ ⟨"SystemParts$Lines", "changeHidden", "(II)I"⟩ ∈ lw_tbl := List.mem_of_getElem? (i := 18) (by decide +kernel)
set_option maxRecDepth 100000 in
theorem mp_19 : Cond.selects "SystemPartsModel" ⟨"SystemPartsModel", "fail", "(I)I"⟩ ⟨"SystemPartsModel", "fail", "(I)I"⟩ ∈ lw_tbl := List.mem_of_getElem? (i := 19) (by decide +kernel)
set_option maxRecDepth 100000 in
theorem mp_20 : Cond.selects "SystemPartsModel" ⟨"SystemPartsModel", "partAt", "(I)I"⟩ ⟨"SystemPartsModel", "partAt", "(I)I"⟩ ∈ lw_tbl := List.mem_of_getElem? (i := 20) (by decide +kernel)
set_option maxRecDepth 100000 in
theorem mp_21 : Cond.selects "SystemPartsModel" ⟨"SystemPartsModel", "stepOnce", "()Z"⟩ ⟨"SystemPartsModel", "stepOnce", "()Z"⟩ ∈ lw_tbl := List.mem_of_getElem? (i := 21) (by decide +kernel)
set_option maxRecDepth 100000 in
theorem mp_22 : Cond.selects "SystemPartsModel" ⟨"SystemPartsModel", "timerStep", "(I)Z"⟩ ⟨"SystemPartsModel", "timerStep", "(I)Z"⟩ ∈ lw_tbl := List.mem_of_getElem? (i := 22) (by decide +kernel)
set_option maxRecDepth 100000 in
theorem mp_23 : Cond.selects "SystemPartsModel" ⟨"SystemPartsModel", "resetAll", "(I)V"⟩ ⟨"SystemPartsModel", "resetAll", "(I)V"⟩ ∈ lw_tbl := List.mem_of_getElem? (i := 23) (by decide +kernel)
set_option maxRecDepth 100000 in
theorem mp_24 : Cond.selects "SystemPartsModel" ⟨"SystemPartsModel", "sendStep", "(I)V"⟩ ⟨"SystemPartsModel", "sendStep", "(I)V"⟩ ∈ lw_tbl := List.mem_of_getElem? (i := 24) (by decide +kernel)
set_option maxRecDepth 100000 in
theorem mp_25 : Cond.selects "SystemPartsModel" ⟨"SystemPartsModel", "rowStep", "(I)V"⟩ ⟨"SystemPartsModel", "rowStep", "(I)V"⟩ ∈ lw_tbl := List.mem_of_getElem? (i := 25) (by decide +kernel)
set_option maxRecDepth 100000 in
theorem mp_26 : Cond.selects "SystemPartsModel" ⟨"SystemPartsModel", "lookAtLines", "()V"⟩ ⟨"SystemPartsModel", "lookAtLines", "()V"⟩ ∈ lw_tbl := List.mem_of_getElem? (i := 26) (by decide +kernel)
set_option maxRecDepth 100000 in
theorem mp_27 : Cond.selects "SystemPartsModel" ⟨"SystemPartsModel", "asksNow", "(I)Z"⟩ ⟨"SystemPartsModel", "asksNow", "(I)Z"⟩ ∈ lw_tbl := List.mem_of_getElem? (i := 27) (by decide +kernel)
set_option maxRecDepth 100000 in
theorem mp_28 : Cond.selects "SystemPartsModel" ⟨"SystemPartsModel", "countAll", "(I)V"⟩ ⟨"SystemPartsModel", "countAll", "(I)V"⟩ ∈ lw_tbl := List.mem_of_getElem? (i := 28) (by decide +kernel)
set_option maxRecDepth 100000 in
theorem mp_29 : Cond.selects "SystemPartsModel" ⟨"SystemPartsModel", "waitFor", "(I)V"⟩ ⟨"SystemPartsModel", "waitFor", "(I)V"⟩ ∈ lw_tbl := List.mem_of_getElem? (i := 29) (by decide +kernel)
set_option maxRecDepth 100000 in
theorem mp_30 : Cond.selects "SystemPartsModel" ⟨"SystemPartsModel", "takeIn", "(I)I"⟩ ⟨"SystemPartsModel", "takeIn", "(I)I"⟩ ∈ lw_tbl := List.mem_of_getElem? (i := 30) (by decide +kernel)
set_option maxRecDepth 100000 in
theorem mp_31 : Cond.selects "SystemPartsModel" ⟨"SystemPartsModel", "writeTimer", "(III)V"⟩ ⟨"SystemPartsModel", "writeTimer", "(III)V"⟩ ∈ lw_tbl := List.mem_of_getElem? (i := 31) (by decide +kernel)
set_option maxRecDepth 100000 in
theorem mp_32 : Cond.selects "SystemPartsModel" ⟨"SystemPartsModel", "writeSerial", "(III)V"⟩ ⟨"SystemPartsModel", "writeSerial", "(III)V"⟩ ∈ lw_tbl := List.mem_of_getElem? (i := 32) (by decide +kernel)
set_option maxRecDepth 100000 in
theorem mp_33 : Cond.selects "SystemPartsModel" ⟨"SystemPartsModel", "writeRows", "(III)V"⟩ ⟨"SystemPartsModel", "writeRows", "(III)V"⟩ ∈ lw_tbl := List.mem_of_getElem? (i := 33) (by decide +kernel)
set_option maxRecDepth 100000 in
theorem mp_34 : Cond.selects "SystemPartsModel" ⟨"SystemPartsModel", "isSerial", "(I)Z"⟩ ⟨"SystemPartsModel", "isSerial", "(I)Z"⟩ ∈ lw_tbl := List.mem_of_getElem? (i := 34) (by decide +kernel)
set_option maxRecDepth 100000 in
theorem mp_35 : Cond.selects "SystemPartsModel" ⟨"SystemPartsModel", "isPending", "(I)Z"⟩ ⟨"SystemPartsModel", "isPending", "(I)Z"⟩ ∈ lw_tbl := List.mem_of_getElem? (i := 35) (by decide +kernel)
set_option maxRecDepth 100000 in
theorem mp_36 : Cond.selects "SystemPartsModel" ⟨"SystemPartsModel", "choose", "()I"⟩ ⟨"SystemPartsModel", "choose", "()I"⟩ ∈ lw_tbl := List.mem_of_getElem? (i := 36) (by decide +kernel)
theorem ln_SP_init : (parseMethodDescriptor y_SP_init.1.desc).map (fun z => z.parameters.length) = some 0 := by decide +kernel
theorem ln_Lines_init : (parseMethodDescriptor y_Lines_init.1.desc).map (fun z => z.parameters.length) = some 0 := by decide +kernel
theorem ln_SP_chosen : (parseMethodDescriptor y_SP_chosen.1.desc).map (fun z => z.parameters.length) = some 0 := by decide +kernel
theorem ln_Lines_best : (parseMethodDescriptor y_Lines_best.1.desc).map (fun z => z.parameters.length) = some 0 := by decide +kernel
theorem ln_Lines_pending : (parseMethodDescriptor y_Lines_pending.1.desc).map (fun z => z.parameters.length) = some 0 := by decide +kernel
theorem ln_SP_take : (parseMethodDescriptor y_SP_take.1.desc).map (fun z => z.parameters.length) = some 0 := by decide +kernel
theorem ln_Lines_forget : (parseMethodDescriptor y_Lines_forget.1.desc).map (fun z => z.parameters.length) = some 1 := by decide +kernel
theorem ln_SP_reset : (parseMethodDescriptor y_SP_reset.1.desc).map (fun z => z.parameters.length) = some 0 := by decide +kernel
theorem ln_SP_resetAll : (parseMethodDescriptor y_SP_resetAll.1.desc).map (fun z => z.parameters.length) = some 1 := by decide +kernel
theorem ln_Counts_beginAnew : (parseMethodDescriptor y_Counts_beginAnew.1.desc).map (fun z => z.parameters.length) = some 0 := by decide +kernel
theorem ln_Rows_beginAnew : (parseMethodDescriptor y_Rows_beginAnew.1.desc).map (fun z => z.parameters.length) = some 0 := by decide +kernel
theorem ln_Serial_beginAnew : (parseMethodDescriptor y_Serial_beginAnew.1.desc).map (fun z => z.parameters.length) = some 0 := by decide +kernel
theorem ln_Timer_beginAnew : (parseMethodDescriptor y_Timer_beginAnew.1.desc).map (fun z => z.parameters.length) = some 0 := by decide +kernel
theorem ln_Part_beginAnew : (parseMethodDescriptor y_Part_beginAnew.1.desc).map (fun z => z.parameters.length) = some 0 := by decide +kernel
theorem ln_Lines_allDown : (parseMethodDescriptor y_Lines_allDown.1.desc).map (fun z => z.parameters.length) = some 0 := by decide +kernel
theorem ln_SP_count : (parseMethodDescriptor y_SP_count.1.desc).map (fun z => z.parameters.length) = some 1 := by decide +kernel
theorem ln_SP_allWaiting : (parseMethodDescriptor y_SP_allWaiting.1.desc).map (fun z => z.parameters.length) = some 0 := by decide +kernel
theorem ln_SP_allGone : (parseMethodDescriptor y_SP_allGone.1.desc).map (fun z => z.parameters.length) = some 0 := by decide +kernel
theorem ln_Law_part : (parseMethodDescriptor y_Law_part.1.desc).map (fun z => z.parameters.length) = some 7 := by decide +kernel
theorem ln_SP_part : (parseMethodDescriptor y_SP_part.1.desc).map (fun z => z.parameters.length) = some 5 := by decide +kernel
theorem ln_SP_lengthOf : (parseMethodDescriptor y_SP_lengthOf.1.desc).map (fun z => z.parameters.length) = some 2 := by decide +kernel
theorem ln_SP_isLine : (parseMethodDescriptor y_SP_isLine.1.desc).map (fun z => z.parameters.length) = some 1 := by decide +kernel
theorem ln_SP_isFree : (parseMethodDescriptor y_SP_isFree.1.desc).map (fun z => z.parameters.length) = some 2 := by decide +kernel
theorem ln_SP_isPlace : (parseMethodDescriptor y_SP_isPlace.1.desc).map (fun z => z.parameters.length) = some 1 := by decide +kernel
theorem ln_Seat_meets : (parseMethodDescriptor y_Seat_meets.1.desc).map (fun z => z.parameters.length) = some 2 := by decide +kernel
theorem ln_Seat_init : (parseMethodDescriptor y_Seat_init.1.desc).map (fun z => z.parameters.length) = some 4 := by decide +kernel
theorem ln_SP_newPart : (parseMethodDescriptor y_SP_newPart.1.desc).map (fun z => z.parameters.length) = some 2 := by decide +kernel
theorem ln_Cells_init : (parseMethodDescriptor y_Cells_init.1.desc).map (fun z => z.parameters.length) = some 2 := by decide +kernel
theorem ln_Part_init : (parseMethodDescriptor y_Part_init.1.desc).map (fun z => z.parameters.length) = some 1 := by decide +kernel
theorem ln_Timer_init : (parseMethodDescriptor y_Timer_init.1.desc).map (fun z => z.parameters.length) = some 1 := by decide +kernel
theorem ln_Serial_init : (parseMethodDescriptor y_Serial_init.1.desc).map (fun z => z.parameters.length) = some 1 := by decide +kernel
theorem ln_Rows_init : (parseMethodDescriptor y_Rows_init.1.desc).map (fun z => z.parameters.length) = some 1 := by decide +kernel
theorem ln_Counts_init : (parseMethodDescriptor y_Counts_init.1.desc).map (fun z => z.parameters.length) = some 1 := by decide +kernel
theorem ln_Law_load : (parseMethodDescriptor y_Law_load.1.desc).map (fun z => z.parameters.length) = some 4 := by decide +kernel
theorem ln_SP_load : (parseMethodDescriptor y_SP_load.1.desc).map (fun z => z.parameters.length) = some 2 := by decide +kernel
theorem ln_SP_partWith : (parseMethodDescriptor y_SP_partWith.1.desc).map (fun z => z.parameters.length) = some 1 := by decide +kernel
theorem ln_Cells_look : (parseMethodDescriptor y_Cells_look.1.desc).map (fun z => z.parameters.length) = some 1 := by decide +kernel
theorem ln_Cells_put : (parseMethodDescriptor y_Cells_put.1.desc).map (fun z => z.parameters.length) = some 2 := by decide +kernel
theorem ln_Law_read : (parseMethodDescriptor y_Law_read.1.desc).map (fun z => z.parameters.length) = some 3 := by decide +kernel
theorem ln_SP_read : (parseMethodDescriptor y_SP_read.1.desc).map (fun z => z.parameters.length) = some 1 := by decide +kernel
theorem ln_SP_reachPart : (parseMethodDescriptor y_SP_reachPart.1.desc).map (fun z => z.parameters.length) = some 1 := by decide +kernel
theorem ln_SP_tallyOne : (parseMethodDescriptor y_SP_tallyOne.1.desc).map (fun z => z.parameters.length) = some 1 := by decide +kernel
theorem ln_Counts_add : (parseMethodDescriptor y_Counts_add.1.desc).map (fun z => z.parameters.length) = some 1 := by decide +kernel
theorem ln_Seat_accessSteps : (parseMethodDescriptor y_Seat_accessSteps.1.desc).map (fun z => z.parameters.length) = some 0 := by decide +kernel
theorem ln_SP_runSteps : (parseMethodDescriptor y_SP_runSteps.1.desc).map (fun z => z.parameters.length) = some 1 := by decide +kernel
theorem ln_SP_oneStep : (parseMethodDescriptor y_SP_oneStep.1.desc).map (fun z => z.parameters.length) = some 0 := by decide +kernel
theorem ln_Counts_goOn : (parseMethodDescriptor y_Counts_goOn.1.desc).map (fun z => z.parameters.length) = some 0 := by decide +kernel
theorem ln_Rows_goOn : (parseMethodDescriptor y_Rows_goOn.1.desc).map (fun z => z.parameters.length) = some 0 := by decide +kernel
theorem ln_Rows_moveNumbers : (parseMethodDescriptor y_Rows_moveNumbers.1.desc).map (fun z => z.parameters.length) = some 0 := by decide +kernel
theorem ln_Serial_goOn : (parseMethodDescriptor y_Serial_goOn.1.desc).map (fun z => z.parameters.length) = some 0 := by decide +kernel
theorem ln_Timer_goOn : (parseMethodDescriptor y_Timer_goOn.1.desc).map (fun z => z.parameters.length) = some 0 := by decide +kernel
theorem ln_Part_goOn : (parseMethodDescriptor y_Part_goOn.1.desc).map (fun z => z.parameters.length) = some 0 := by decide +kernel
theorem ln_SP_askingLines : (parseMethodDescriptor y_SP_askingLines.1.desc).map (fun z => z.parameters.length) = some 0 := by decide +kernel
theorem ln_Rows_wantsAttention : (parseMethodDescriptor y_Rows_wantsAttention.1.desc).map (fun z => z.parameters.length) = some 0 := by decide +kernel
theorem ln_Serial_wantsAttention : (parseMethodDescriptor y_Serial_wantsAttention.1.desc).map (fun z => z.parameters.length) = some 0 := by decide +kernel
theorem ln_Timer_wantsAttention : (parseMethodDescriptor y_Timer_wantsAttention.1.desc).map (fun z => z.parameters.length) = some 0 := by decide +kernel
theorem ln_Part_wantsAttention : (parseMethodDescriptor y_Part_wantsAttention.1.desc).map (fun z => z.parameters.length) = some 0 := by decide +kernel
theorem ln_Lines_follow : (parseMethodDescriptor y_Lines_follow.1.desc).map (fun z => z.parameters.length) = some 1 := by decide +kernel
theorem ln_Counts_look : (parseMethodDescriptor y_Counts_look.1.desc).map (fun z => z.parameters.length) = some 1 := by decide +kernel
theorem ln_Rows_look : (parseMethodDescriptor y_Rows_look.1.desc).map (fun z => z.parameters.length) = some 1 := by decide +kernel
theorem ln_Rows_inWindow : (parseMethodDescriptor y_Rows_inWindow.1.desc).map (fun z => z.parameters.length) = some 1 := by decide +kernel
theorem ln_Serial_look : (parseMethodDescriptor y_Serial_look.1.desc).map (fun z => z.parameters.length) = some 1 := by decide +kernel
theorem ln_Serial_nextCome : (parseMethodDescriptor y_Serial_nextCome.1.desc).map (fun z => z.parameters.length) = some 0 := by decide +kernel
theorem ln_Timer_look : (parseMethodDescriptor y_Timer_look.1.desc).map (fun z => z.parameters.length) = some 1 := by decide +kernel
theorem ln_Law_write : (parseMethodDescriptor y_Law_write.1.desc).map (fun z => z.parameters.length) = some 4 := by decide +kernel
theorem ln_SP_write : (parseMethodDescriptor y_SP_write.1.desc).map (fun z => z.parameters.length) = some 2 := by decide +kernel
theorem ln_Cells_refusesWrites : (parseMethodDescriptor y_Cells_refusesWrites.1.desc).map (fun z => z.parameters.length) = some 0 := by decide +kernel
theorem ln_Part_refusesWrites : (parseMethodDescriptor y_Part_refusesWrites.1.desc).map (fun z => z.parameters.length) = some 0 := by decide +kernel
theorem ln_Counts_put : (parseMethodDescriptor y_Counts_put.1.desc).map (fun z => z.parameters.length) = some 2 := by decide +kernel
theorem ln_Rows_put : (parseMethodDescriptor y_Rows_put.1.desc).map (fun z => z.parameters.length) = some 2 := by decide +kernel
theorem ln_Rows_begin : (parseMethodDescriptor y_Rows_begin.1.desc).map (fun z => z.parameters.length) = some 1 := by decide +kernel
theorem ln_Serial_put : (parseMethodDescriptor y_Serial_put.1.desc).map (fun z => z.parameters.length) = some 2 := by decide +kernel
theorem ln_Timer_put : (parseMethodDescriptor y_Timer_put.1.desc).map (fun z => z.parameters.length) = some 2 := by decide +kernel
theorem ln_Law_step : (parseMethodDescriptor y_Law_step.1.desc).map (fun z => z.parameters.length) = some 3 := by decide +kernel
theorem ln_SP_step : (parseMethodDescriptor y_SP_step.1.desc).map (fun z => z.parameters.length) = some 1 := by decide +kernel
theorem ln_Law_receive : (parseMethodDescriptor y_Law_receive.1.desc).map (fun z => z.parameters.length) = some 4 := by decide +kernel
theorem ln_SP_receive : (parseMethodDescriptor y_SP_receive.1.desc).map (fun z => z.parameters.length) = some 2 := by decide +kernel
theorem ln_SP_serialAt : (parseMethodDescriptor y_SP_serialAt.1.desc).map (fun z => z.parameters.length) = some 1 := by decide +kernel
theorem ln_Serial_isFull : (parseMethodDescriptor y_Serial_isFull.1.desc).map (fun z => z.parameters.length) = some 0 := by decide +kernel
theorem ln_Serial_accept : (parseMethodDescriptor y_Serial_accept.1.desc).map (fun z => z.parameters.length) = some 1 := by decide +kernel
theorem ln_Law_sent : (parseMethodDescriptor y_Law_sent.1.desc).map (fun z => z.parameters.length) = some 4 := by decide +kernel
theorem ln_SP_sent : (parseMethodDescriptor y_SP_sent.1.desc).map (fun z => z.parameters.length) = some 2 := by decide +kernel
theorem ln_Serial_goneKept : (parseMethodDescriptor y_Serial_goneKept.1.desc).map (fun z => z.parameters.length) = some 0 := by decide +kernel
theorem ln_Serial_goneAt : (parseMethodDescriptor y_Serial_goneAt.1.desc).map (fun z => z.parameters.length) = some 1 := by decide +kernel
theorem ln_Law_line : (parseMethodDescriptor y_Law_line.1.desc).map (fun z => z.parameters.length) = some 5 := by decide +kernel
theorem ln_SP_line : (parseMethodDescriptor y_SP_line.1.desc).map (fun z => z.parameters.length) = some 3 := by decide +kernel
theorem ln_Lines_greatest : (parseMethodDescriptor y_Lines_greatest.1.desc).map (fun z => z.parameters.length) = some 1 := by decide +kernel
theorem ln_Lines_change : (parseMethodDescriptor y_Lines_change.1.desc).map (fun z => z.parameters.length) = some 3 := by decide +kernel
theorem ln_Lines_changeWay : (parseMethodDescriptor y_Lines_changeWay.1.desc).map (fun z => z.parameters.length) = some 2 := by decide +kernel
theorem ln_Lines_changeRank : (parseMethodDescriptor y_Lines_changeRank.1.desc).map (fun z => z.parameters.length) = some 2 := by decide +kernel
theorem ln_Lines_changeHidden : (parseMethodDescriptor y_Lines_changeHidden.1.desc).map (fun z => z.parameters.length) = some 2 := by decide +kernel
theorem ln_Law_asks : (parseMethodDescriptor y_Law_asks.1.desc).map (fun z => z.parameters.length) = some 3 := by decide +kernel
theorem ln_SP_asks : (parseMethodDescriptor y_SP_asks.1.desc).map (fun z => z.parameters.length) = some 1 := by decide +kernel
theorem ln_Model_init : (parseMethodDescriptor y_Model_init.1.desc).map (fun z => z.parameters.length) = some 0 := by decide +kernel
theorem ln_Model_thrown : (parseMethodDescriptor y_Model_thrown.1.desc).map (fun z => z.parameters.length) = some 0 := by decide +kernel
theorem ln_Model_part : (parseMethodDescriptor y_Model_part.1.desc).map (fun z => z.parameters.length) = some 5 := by decide +kernel
theorem ln_Model_within : (parseMethodDescriptor y_Model_within.1.desc).map (fun z => z.parameters.length) = some 3 := by decide +kernel
theorem ln_Model_sizeOf : (parseMethodDescriptor y_Model_sizeOf.1.desc).map (fun z => z.parameters.length) = some 2 := by decide +kernel
theorem ln_Model_fail : (parseMethodDescriptor y_Model_fail.1.desc).map (fun z => z.parameters.length) = some 1 := by decide +kernel
theorem ln_Model_load : (parseMethodDescriptor y_Model_load.1.desc).map (fun z => z.parameters.length) = some 2 := by decide +kernel
theorem ln_Model_partAt : (parseMethodDescriptor y_Model_partAt.1.desc).map (fun z => z.parameters.length) = some 1 := by decide +kernel
theorem ln_Model_step : (parseMethodDescriptor y_Model_step.1.desc).map (fun z => z.parameters.length) = some 1 := by decide +kernel
theorem ln_Model_stepOnce : (parseMethodDescriptor y_Model_stepOnce.1.desc).map (fun z => z.parameters.length) = some 0 := by decide +kernel
theorem ln_Model_timerStep : (parseMethodDescriptor y_Model_timerStep.1.desc).map (fun z => z.parameters.length) = some 1 := by decide +kernel
theorem ln_Model_resetAll : (parseMethodDescriptor y_Model_resetAll.1.desc).map (fun z => z.parameters.length) = some 1 := by decide +kernel
theorem ln_Model_sendStep : (parseMethodDescriptor y_Model_sendStep.1.desc).map (fun z => z.parameters.length) = some 1 := by decide +kernel
theorem ln_Model_rowStep : (parseMethodDescriptor y_Model_rowStep.1.desc).map (fun z => z.parameters.length) = some 1 := by decide +kernel
theorem ln_Model_lookAtLines : (parseMethodDescriptor y_Model_lookAtLines.1.desc).map (fun z => z.parameters.length) = some 0 := by decide +kernel
theorem ln_Model_asksNow : (parseMethodDescriptor y_Model_asksNow.1.desc).map (fun z => z.parameters.length) = some 1 := by decide +kernel
theorem ln_Model_read : (parseMethodDescriptor y_Model_read.1.desc).map (fun z => z.parameters.length) = some 1 := by decide +kernel
theorem ln_Model_countAll : (parseMethodDescriptor y_Model_countAll.1.desc).map (fun z => z.parameters.length) = some 1 := by decide +kernel
theorem ln_Model_waitFor : (parseMethodDescriptor y_Model_waitFor.1.desc).map (fun z => z.parameters.length) = some 1 := by decide +kernel
theorem ln_Model_takeIn : (parseMethodDescriptor y_Model_takeIn.1.desc).map (fun z => z.parameters.length) = some 1 := by decide +kernel
theorem ln_Model_write : (parseMethodDescriptor y_Model_write.1.desc).map (fun z => z.parameters.length) = some 2 := by decide +kernel
theorem ln_Model_writeTimer : (parseMethodDescriptor y_Model_writeTimer.1.desc).map (fun z => z.parameters.length) = some 3 := by decide +kernel
theorem ln_Model_writeSerial : (parseMethodDescriptor y_Model_writeSerial.1.desc).map (fun z => z.parameters.length) = some 3 := by decide +kernel
theorem ln_Model_writeRows : (parseMethodDescriptor y_Model_writeRows.1.desc).map (fun z => z.parameters.length) = some 3 := by decide +kernel
theorem ln_Model_receive : (parseMethodDescriptor y_Model_receive.1.desc).map (fun z => z.parameters.length) = some 2 := by decide +kernel
theorem ln_Model_isSerial : (parseMethodDescriptor y_Model_isSerial.1.desc).map (fun z => z.parameters.length) = some 1 := by decide +kernel
theorem ln_Model_sent : (parseMethodDescriptor y_Model_sent.1.desc).map (fun z => z.parameters.length) = some 2 := by decide +kernel
theorem ln_Model_line : (parseMethodDescriptor y_Model_line.1.desc).map (fun z => z.parameters.length) = some 3 := by decide +kernel
theorem ln_Model_asks : (parseMethodDescriptor y_Model_asks.1.desc).map (fun z => z.parameters.length) = some 1 := by decide +kernel
theorem ln_Model_isPending : (parseMethodDescriptor y_Model_isPending.1.desc).map (fun z => z.parameters.length) = some 1 := by decide +kernel
theorem ln_Model_chosen : (parseMethodDescriptor y_Model_chosen.1.desc).map (fun z => z.parameters.length) = some 0 := by decide +kernel
theorem ln_Model_choose : (parseMethodDescriptor y_Model_choose.1.desc).map (fun z => z.parameters.length) = some 0 := by decide +kernel
theorem ln_Model_take : (parseMethodDescriptor y_Model_take.1.desc).map (fun z => z.parameters.length) = some 0 := by decide +kernel
theorem ln_Model_reset : (parseMethodDescriptor y_Model_reset.1.desc).map (fun z => z.parameters.length) = some 0 := by decide +kernel
theorem ln_Model_count : (parseMethodDescriptor y_Model_count.1.desc).map (fun z => z.parameters.length) = some 1 := by decide +kernel
theorem ln_Law_law : (parseMethodDescriptor y_Law_law.1.desc).map (fun z => z.parameters.length) = some 1 := by decide +kernel
theorem mm_G.cast {sc : mm_Sc} {y : mm_M} {d pc : Nat} {l l' : mm_L} {st st' : List Value} {n : Nat} {h h' : mm_H} {kc ks : Nat} {Q : mm_O → Nat → mm_H → Prop} (hl : l = l') (hs : st = st') (hh : h = h') (k : mm_G sc y d pc l' st' n h' kc ks Q) : mm_G sc y d pc l st n h kc ks Q := by subst hl; subst hs; subst hh; exact k
theorem mm_inb {k : Int32} {len : Nat} (hl : len < 2 ^ 31) (c1 : ¬ k < 0) (c2 : ¬ Int32.ofNat len ≤ k) : vp_in k len := by
  obtain ⟨j, h1, h2, -⟩ := pk_mu (L := len) c1 c2 hl
  rw [h2]
  exact vp_in_nI h1 hl
theorem mm_inb' {k : Int32} {len : Nat} (hl : len < 2 ^ 31) (c1 : ¬ k < 0) (c2 : k < Int32.ofNat len) : vp_in k len := mm_inb hl c1 (fun h => absurd c2 (Int32.not_lt.mpr h))
theorem mm_upJ {h : mm_H} {a b : Nat} {c1 c2 : Option mm_C} (hne : a ≠ b) : va_up (va_up h a c1) b c2 = va_up (va_up h b c2) a c1 := by
  funext j
  by_cases e1 : j = a
  · subst e1; rw [va_up_ne _ _ hne, va_up_self, va_up_self]
  · by_cases e2 : j = b
    · subst e2; rw [va_up_self, va_up_ne _ _ e1, va_up_self]
    · rw [va_up_ne _ _ e2, va_up_ne _ _ e1, va_up_ne _ _ e1, va_up_ne _ _ e2]
theorem mm_up_idE {h : mm_H} {a : Nat} {c c' : mm_C} (ha : h a = some c) (e : c' = c) : h = va_up h a (some c') := by
  subst e
  funext j
  by_cases q : j = a
  · subst q; rw [va_up_self, ha]
  · rw [va_up_ne _ _ q]
/-- the first i are 0 -/
def za (A : Nat → Int32) (i : Nat) : Nat → Int32 := fun j => if j < i then 0 else A j
theorem za_0 (A : Nat → Int32) : za A 0 = A := by funext j; simp [za]
theorem za_s (A : Nat → Int32) (i : Nat) : upd (za A i) i 0 = za A (i + 1) := by
  funext j
  by_cases h : j = i
  · subst h; simp [upd, za]
  · by_cases h2 : j < i
    · simp [upd, za, h, h2, Nat.lt_succ_of_lt h2]
    · have h3 : ¬ j < i + 1 := by omega
      simp [upd, za, h, h2, h3]
